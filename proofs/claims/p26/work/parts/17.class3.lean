set_option maxHeartbeats 4000000 in
set_option maxRecDepth 100000 in
theorem c_X6_saysYes (l : Launch) (dC : Nat → ClassId) (dI : Nat → Nat → Nat) (k : Nat → ClassId) (q : Nat → Nat) (z : ZS) (d : Int32) (w : Int32) (n : Int32) (sz : Nat) (hI : XInv z) : Met l yX6_saysYes (wz yX6_saysYes cX6_saysYes 5 (some .long)) ({ frames := 3, cells := 0, slots := 0, locals := 69 }) (va_Pc [.ref (q 0), .int d, .int w, .int n] (zPre dC dI k (zTX k) (zX k q z) sz)) (va_Ql (fun (r : Int64) (u : ZS) => (XInv u) ∧ (trX u = trX z)) (fun u t => zPost dC dI (va_A (zX k q z) sz) (zX k q u) t) (va_A (zX k q z) sz)) 0 0 (va_A (zX k q z) sz) := by
  refine Met.ofW (cc := cX6_saysYes) (maxL := 5) (ret := (some .long)) (by decide) rfl ?_
  intro p e s m args below meth c s₁ B hml hv
  obtain ⟨rfl, hsz, hP, hK, hD0⟩ := hv
  have hx := B.exec
  have hb := B.bytes
  have hr := B.returns
  have hts := atoms_spec (ws := wz yX6_saysYes cX6_saysYes 5 (some .long)) B.pre
  have htb : ∀ w ∈ zw, w.before _ s = true := fun w h => hts w (List.mem_cons_of_mem _ h)
  have hown : s.vm.findClass RX6 = some m.cls := findClass_of_methodNamed B.named
  have hlocks := B.notSynchronized
  clear hts
  subst hsz
  have hD := hD0.self (sz := s.heap.size)
  generalize hAe : va_A (zX k q z) s.heap.size = A at hD ⊢
  have hA : ∀ q : Nat, s.heap.size ≤ q → A q := fun q h => by rw [← hAe]; exact Or.inr h
  have hDa : ∀ z9 : ZS, va_D A (zX k q z9) := fun z9 => va_D_adr (w := zX k q z) rfl hD
  have hl := lv_entry ([.ref (q 0), .int d, .int w, .int n]) (n := 5) (Nat.le_of_ble_eq_true rfl)
  rw [lg_entry_eq]
  generalize (lg_sl ([.ref (q 0), .int d, .int w, .int n]) ++ List.replicate (5 - (lg_sl ([.ref (q 0), .int d, .int w, .int n])).length) Slot.unset).toArray = ls at hl ⊢
  have hl : lv_has ls 5 [(0, .ref (q 0)), (1, .int d), (2, .int w), (3, .int n)] := hl
  refine z_start2 (A := A) (w := (zX k q z)) hP (fun H locs hP hS => ?_)
  clear hD0 hAe
  have hT : trX z = trX z := rfl
  refine lv_iload_n hx hb dX6_saysYes_0 rfl (lv_at hl 1 rfl) ?_
  refine zc0_i (w := (zX k q z)) (va_runS (As := [.int d]) (rest := []) ⟨hx, hb, hml, hown, htb⟩ (c_X6_isDesign l dC dI k d _ ) (va_cwS 1 htb (gzS wmt1_211 wmt1_212 wmt1_1 wmt1_213) rfl rfl rfl (by decide +kernel) ⟨Nat.le_of_ble_eq_true rfl, Nat.le_of_ble_eq_true rfl⟩) (zp0_S hK) rfl rfl hl.1 rfl (lv_room (Nat.le_of_ble_eq_true rfl)) dX6_saysYes_1 ⟨Nat.le_of_ble_eq_true rfl, Nat.le_of_ble_eq_true rfl⟩) hP hS hA (fun r_1 u_2 H locs w_3 hP hS => ?_)
  rcases w_3 with ⟨e_5, h_4⟩ | ⟨e_7, h_6⟩
  · skip
    replace e_5 : r_1 = 1 := e_5
    subst e_5
    replace h_4 : 0 ≤ d.toInt ∧ d.toInt < 4 := h_4
    refine lv_if_eq (tgt := 21) hx hb dX6_saysYes_4 (by decide) (fun c_8 => ?_) (fun c_8 => ?_)
    · skip
      exact absurd c_8 (by decide)
    · skip
      refine lv_iload_n hx hb dX6_saysYes_7 rfl (lv_at hl 2 rfl) ?_
      refine zc0_i (w := (zX k q z)) (va_runS (As := [.int w]) (rest := []) ⟨hx, hb, hml, hown, htb⟩ (c_X6_isEither l dC dI k w _ ) (va_cwS 1 htb (gzS wmt2_48 wmt2_49 wmt1_1 wmt2_50) rfl rfl rfl (by decide +kernel) ⟨Nat.le_of_ble_eq_true rfl, Nat.le_of_ble_eq_true rfl⟩) (zp0_S hK) rfl rfl hl.1 rfl (lv_room (Nat.le_of_ble_eq_true rfl)) dX6_saysYes_8 ⟨Nat.le_of_ble_eq_true rfl, Nat.le_of_ble_eq_true rfl⟩) hP hS hA (fun r_9 u_10 H locs w_11 hP hS => ?_)
      rcases w_11 with ⟨e_13, h_12⟩ | ⟨e_15, h_14⟩
      · skip
        replace e_13 : r_9 = 1 := e_13
        subst e_13
        replace h_12 : 0 ≤ w.toInt ∧ w.toInt < 2 := h_12
        refine lv_if_eq (tgt := 21) hx hb dX6_saysYes_11 (by decide) (fun c_16 => ?_) (fun c_16 => ?_)
        · skip
          exact absurd c_16 (by decide)
        · skip
          refine lv_iload_n hx hb dX6_saysYes_14 rfl (lv_at hl 3 rfl) ?_
          refine zc0_i (w := (zX k q z)) (va_runS (As := [.int n]) (rest := []) ⟨hx, hb, hml, hown, htb⟩ (c_X6_isEither l dC dI k n _ ) (va_cwS 1 htb (gzS wmt2_48 wmt2_49 wmt1_1 wmt2_50) rfl rfl rfl (by decide +kernel) ⟨Nat.le_of_ble_eq_true rfl, Nat.le_of_ble_eq_true rfl⟩) (zp0_S hK) rfl rfl hl.1 rfl (lv_room (Nat.le_of_ble_eq_true rfl)) dX6_saysYes_15 ⟨Nat.le_of_ble_eq_true rfl, Nat.le_of_ble_eq_true rfl⟩) hP hS hA (fun r_17 u_18 H locs w_19 hP hS => ?_)
          rcases w_19 with ⟨e_21, h_20⟩ | ⟨e_23, h_22⟩
          · skip
            replace e_21 : r_17 = 1 := e_21
            subst e_21
            replace h_20 : 0 ≤ n.toInt ∧ n.toInt < 2 := h_20
            refine lv_if_ne (tgt := 27) hx hb dX6_saysYes_18 (by decide) (fun c_24 => ?_) (fun c_24 => ?_)
            · skip
              refine lv_aload_n hx hb dX6_saysYes_27 rfl (lv_at hl 0 rfl) ?_
              refine va_get (D := (dC, dI)) (ci := 6) (v := .ref (q 1)) (C := RX6) (T := TX6) (N := 12) hx hb htb inw6 hown hK.1 hP 0 rfl rfl 0 (by decide) (htb _ wmt1_170) (fun _ h9 => h9) rfl dX6_saysYes_28 ?_
              refine lv_iload_n hx hb dX6_saysYes_31 rfl (lv_at hl 1 rfl) ?_
              refine va_aldq (D := (dC, dI)) hx hb hK.1 hP 1 3 rfl rfl (z_in (by omega)) dX6_saysYes_32 ?_
              obtain ⟨d_25, ed_25⟩ : ∃ x : Nat, x = d.toNatClampNeg := ⟨_, rfl⟩
              have hd_25 : d_25 < 4 := by rw [ed_25]; exact z_cl4 (by omega)
              refine z_top (v2 := .ref (qD q d_25 0)) (zgD_at2 ed_25 hd_25) ?_
              refine lv_astore (lv' := [(4, .ref (qD q d_25 0)), (0, .ref (q 0)), (1, .int d), (2, .int w), (3, .int n)]) hx hb dX6_saysYes_33 hl (by decide) rfl (fun ls hl => ?_)
              refine lv_aload hx hb dX6_saysYes_35 (lv_at hl 0 rfl) ?_
              refine zcS_i (w := (zX k q z)) (wc := (zD k (qD q d_25) (xD z d_25))) (va_runV (As := []) (rest := []) ⟨hx, hb, hml, hown, htb⟩ (c_X1_isFaulty l dC dI k (qD q d_25) (xD z d_25) _ ) (cwV 0 htb (gzV wmt2_55 wmt2_20 wmt2_21 wmt1_6 wmt2_22) rfl rfl rfl (by decide +kernel) ⟨Nat.le_of_ble_eq_true rfl, Nat.le_of_ble_eq_true rfl⟩) (zp_V (ci := 1) (q0 := (16 + 3 * d_25)) hK hP (hDa _) [16 + 3 * d_25, 17 + 3 * d_25, 18 + 3 * d_25] (zX_DC hd_25) (zX_ndD hd_25) rfl (zX_D0 hd_25)) rfl rfl hl.1 rfl (lv_room (Nat.le_of_ble_eq_true rfl)) dX6_saysYes_37 ⟨Nat.le_of_ble_eq_true rfl, Nat.le_of_ble_eq_true rfl⟩) hP (hDa _) hS hA [16 + 3 * d_25, 17 + 3 * d_25, 18 + 3 * d_25] (zX_DC hd_25) (fun _ => rfl) (fun r_26 u_27 H locs w_28 hP _ hS => ?_)
              have hP : va_P (dC, dI) vwCl (zX k q z) H := (zX_Dkeep hd_25) ▸ hP
              rcases w_28 with ⟨e_30, h_29⟩ | ⟨e_32, h_31⟩
              · skip
                replace e_30 : r_26 = 1 := e_30
                subst e_30
                replace h_29 : ¬ ((xD z d_25).1 2).toInt = -1 := h_29
                refine lv_if_eq (tgt := 49) hx hb dX6_saysYes_40 (by decide) (fun c_33 => ?_) (fun c_33 => ?_)
                · skip
                  exact absurd c_33 (by decide)
                · skip
                  refine lv_bipush (v := (-3)) hx hb dX6_saysYes_43 (by decide) ?_
                  refine zc0_l (w := (zX k q z)) (va_runS (As := [.int (-3)]) (rest := []) ⟨hx, hb, hml, hown, htb⟩ (c_X6_asLong l dC dI k (-3) _ ) (va_cwS 1 htb (gzS wmt2_51 wmt2_52 wmt1_1 wmt2_53) rfl rfl rfl (by decide +kernel) ⟨Nat.le_of_ble_eq_true rfl, Nat.le_of_ble_eq_true rfl⟩) (zp0_S hK) rfl rfl hl.1 rfl (lv_room (Nat.le_of_ble_eq_true rfl)) dX6_saysYes_45 ⟨Nat.le_of_ble_eq_true rfl, Nat.le_of_ble_eq_true rfl⟩) hP hS hA (fun r_34 u_35 H locs w_36 hP hS => ?_)
                  have h_37 := w_36
                  replace h_37 : r_34.toInt = tl ((-3) : Int32) := h_37
                  exact W.lret (v := r_34) hx hb hr (fun t ht hW => ⟨⟨r_34, z, rfl, ⟨hI, hT⟩, ⟨by rw [ht]; exact hP, hDa _⟩⟩, hS.F ht⟩) hS.2.2 dX6_saysYes_48
              · skip
                replace e_32 : r_26 = 0 := e_32
                subst e_32
                replace h_31 : ((xD z d_25).1 2).toInt = -1 := h_31
                refine lv_if_eq (tgt := 49) hx hb dX6_saysYes_40 (by decide) (fun c_39 => ?_) (fun c_39 => ?_)
                · skip
                  refine lv_aload_n hx hb dX6_saysYes_49 rfl (lv_at hl 1 rfl) ?_
                  refine va_get (D := (dC, dI)) (ci := 6) (v := .ref (q 15)) (C := RX6) (T := TX6) (N := 12) hx hb htb inw6 hown hK.1 hP 0 rfl rfl 6 (by decide) (htb _ wmt1_176) (fun _ h9 => h9) rfl dX6_saysYes_50 ?_
                  refine lv_iload_n hx hb dX6_saysYes_53 rfl (lv_at hl 3 rfl) ?_
                  refine lv_iconst (v := 1) hx hb dX6_saysYes_54 (by decide) ?_
                  refine lv_icmp_ne (tgt := 67) hx hb dX6_saysYes_55 (by decide) (fun c_40 => ?_) (fun c_40 => ?_)
                  · skip
                    have hc_40 := zb_ne rfl (show (1 : Int32).toInt = 1 by decide) c_40
                    refine lv_aload hx hb dX6_saysYes_67 (lv_at hl 0 rfl) ?_
                    refine va_get (D := (dC, dI)) (ci := 1) (v := .int (z.1 (10 + 6 * d_25 + 4))) (C := RX1) (T := TX1) (N := 9) hx hb htb inw1 hown hK.1 hP (16 + 3 * d_25) (zX_D0 hd_25) rfl 7 (by decide) (htb _ wmt1_129) (fun _ h9 => h9) rfl dX6_saysYes_69 ?_
                    refine lv_topi (fun x_41 ex_41 => ?_)
                    have hx_41 : x_41.toInt = (z.1 (10 + 6 * d_25 + 4)).toInt := by rw [ex_41]
                    refine lv_i2l (v := x_41.toInt64) hx hb dX6_saysYes_72 rfl ?_
                    refine lv_topl (fun x_42 ex_42 => ?_)
                    have hx_42 : x_42.toInt = x_41.toInt := by rw [ex_42]; exact Jvm.Kit.i64_of_i32 _
                    refine lv_aload hx hb dX6_saysYes_73 (lv_at hl 0 rfl) ?_
                    refine va_get (D := (dC, dI)) (ci := 1) (v := .int (z.1 (10 + 6 * d_25 + 5))) (C := RX1) (T := TX1) (N := 9) hx hb htb inw1 hown hK.1 hP (16 + 3 * d_25) (zX_D0 hd_25) rfl 8 (by decide) (htb _ wmt1_132) (fun _ h9 => h9) rfl dX6_saysYes_75 ?_
                    refine lv_topi (fun x_43 ex_43 => ?_)
                    have hx_43 : x_43.toInt = (z.1 (10 + 6 * d_25 + 5)).toInt := by rw [ex_43]
                    refine lv_i2l (v := x_43.toInt64) hx hb dX6_saysYes_78 rfl ?_
                    refine lv_topl (fun x_44 ex_44 => ?_)
                    have hx_44 : x_44.toInt = x_43.toInt := by rw [ex_44]; exact Jvm.Kit.i64_of_i32 _
                    refine zcS_v (w := (zX k q z)) (wc := (zF k (qof q 15) (xF z))) (va_runV (As := [.long x_42, .long x_44]) (rest := []) ⟨hx, hb, hml, hown, htb⟩ (c_X2_become l dC dI k (qof q 15) (xF z) x_42 x_44 _ ) (cwV 2 htb (gzV wmt2_56 wmt2_57 wmt2_58 wmt1_5 wmt2_59) rfl rfl rfl (by decide +kernel) ⟨Nat.le_of_ble_eq_true rfl, Nat.le_of_ble_eq_true rfl⟩) (zp_V (ci := 2) (q0 := 15) hK hP (hDa _) [15] rfl (by decide) rfl rfl) rfl rfl hl.1 rfl (lv_room (Nat.le_of_ble_eq_true rfl)) dX6_saysYes_79 ⟨Nat.le_of_ble_eq_true rfl, Nat.le_of_ble_eq_true rfl⟩) hP (hDa _) hS hA [15] rfl (fun _ => rfl) (fun u_46 H locs w_47 hP _ hS => ?_)
                    have hP : va_P (dC, dI) vwCl (zX k q (sJ (sJ z 0 (u_46.2.1 0)) 1 (u_46.2.1 1))) H := hP
                    refine lv_aload_n hx hb dX6_saysYes_82 rfl (lv_at hl 1 rfl) ?_
                    refine va_get (D := (dC, dI)) (ci := 6) (v := .ref (q 15)) (C := RX6) (T := TX6) (N := 12) hx hb htb inw6 hown hK.1 hP 0 rfl rfl 6 (by decide) (htb _ wmt1_176) (fun _ h9 => h9) rfl dX6_saysYes_83 ?_
                    refine lv_iload_n hx hb dX6_saysYes_86 rfl (lv_at hl 4 rfl) ?_
                    refine zcS_l (w := (zX k q (sJ (sJ z 0 (u_46.2.1 0)) 1 (u_46.2.1 1)))) (wc := (zF k (qof q 15) (xF (sJ (sJ z 0 (u_46.2.1 0)) 1 (u_46.2.1 1))))) (va_runV (As := [.int n]) (rest := []) ⟨hx, hb, hml, hown, htb⟩ (c_X2_told l dC dI k (qof q 15) (xF (sJ (sJ z 0 (u_46.2.1 0)) 1 (u_46.2.1 1))) n _ ) (cwV 1 htb (gzV wmt2_61 wmt2_62 wmt2_63 wmt1_5 wmt2_64) rfl rfl rfl (by decide +kernel) ⟨Nat.le_of_ble_eq_true rfl, Nat.le_of_ble_eq_true rfl⟩) (zp_V (ci := 2) (q0 := 15) hK hP (hDa _) [15] rfl (by decide) rfl rfl) rfl rfl hl.1 rfl (lv_room (Nat.le_of_ble_eq_true rfl)) dX6_saysYes_87 ⟨Nat.le_of_ble_eq_true rfl, Nat.le_of_ble_eq_true rfl⟩) hP (hDa _) hS hA [15] rfl (fun _ => rfl) (fun r_48 u_49 H locs w_50 hP _ hS => ?_)
                    have hP : va_P (dC, dI) vwCl (zX k q (sJ (sJ z 0 (u_46.2.1 0)) 1 (u_46.2.1 1))) H := hP
                    have h_51 := w_50
                    replace h_51 : (n.toInt = 0 → r_48 = (xF (sJ (sJ z 0 (u_46.2.1 0)) 1 (u_46.2.1 1))).2.1 0) ∧ (¬ n.toInt = 0 → r_48 = (xF (sJ (sJ z 0 (u_46.2.1 0)) 1 (u_46.2.1 1))).2.1 1) := h_51
                    exact W.lret (v := r_48) hx hb hr (fun t ht hW => ⟨⟨r_48, (sJ (sJ z 0 (u_46.2.1 0)) 1 (u_46.2.1 1)), rfl, ⟨hI, hT⟩, ⟨by rw [ht]; exact hP, hDa _⟩⟩, hS.F ht⟩) hS.2.2 dX6_saysYes_90
                  · skip
                    have hc_40 := zb_eq rfl (show (1 : Int32).toInt = 1 by decide) c_40
                    refine lv_aload hx hb dX6_saysYes_58 (lv_at hl 0 rfl) ?_
                    refine va_get (D := (dC, dI)) (ci := 1) (v := .int (z.1 (10 + 6 * d_25 + 3))) (C := RX1) (T := TX1) (N := 9) hx hb htb inw1 hown hK.1 hP (16 + 3 * d_25) (zX_D0 hd_25) rfl 6 (by decide) (htb _ wmt1_127) (fun _ h9 => h9) rfl dX6_saysYes_60 ?_
                    refine lv_topi (fun x_53 ex_53 => ?_)
                    have hx_53 : x_53.toInt = (z.1 (10 + 6 * d_25 + 3)).toInt := by rw [ex_53]
                    refine lv_i2l (v := x_53.toInt64) hx hb dX6_saysYes_63 rfl ?_
                    refine lv_topl (fun x_54 ex_54 => ?_)
                    have hx_54 : x_54.toInt = x_53.toInt := by rw [ex_54]; exact Jvm.Kit.i64_of_i32 _
                    refine lv_goto (tgt := 73) hx hb dX6_saysYes_64 (by decide) ?_
                    refine lv_aload hx hb dX6_saysYes_73 (lv_at hl 0 rfl) ?_
                    refine va_get (D := (dC, dI)) (ci := 1) (v := .int (z.1 (10 + 6 * d_25 + 5))) (C := RX1) (T := TX1) (N := 9) hx hb htb inw1 hown hK.1 hP (16 + 3 * d_25) (zX_D0 hd_25) rfl 8 (by decide) (htb _ wmt1_132) (fun _ h9 => h9) rfl dX6_saysYes_75 ?_
                    refine lv_topi (fun x_55 ex_55 => ?_)
                    have hx_55 : x_55.toInt = (z.1 (10 + 6 * d_25 + 5)).toInt := by rw [ex_55]
                    refine lv_i2l (v := x_55.toInt64) hx hb dX6_saysYes_78 rfl ?_
                    refine lv_topl (fun x_56 ex_56 => ?_)
                    have hx_56 : x_56.toInt = x_55.toInt := by rw [ex_56]; exact Jvm.Kit.i64_of_i32 _
                    refine zcS_v (w := (zX k q z)) (wc := (zF k (qof q 15) (xF z))) (va_runV (As := [.long x_54, .long x_56]) (rest := []) ⟨hx, hb, hml, hown, htb⟩ (c_X2_become l dC dI k (qof q 15) (xF z) x_54 x_56 _ ) (cwV 2 htb (gzV wmt2_56 wmt2_57 wmt2_58 wmt1_5 wmt2_59) rfl rfl rfl (by decide +kernel) ⟨Nat.le_of_ble_eq_true rfl, Nat.le_of_ble_eq_true rfl⟩) (zp_V (ci := 2) (q0 := 15) hK hP (hDa _) [15] rfl (by decide) rfl rfl) rfl rfl hl.1 rfl (lv_room (Nat.le_of_ble_eq_true rfl)) dX6_saysYes_79 ⟨Nat.le_of_ble_eq_true rfl, Nat.le_of_ble_eq_true rfl⟩) hP (hDa _) hS hA [15] rfl (fun _ => rfl) (fun u_58 H locs w_59 hP _ hS => ?_)
                    have hP : va_P (dC, dI) vwCl (zX k q (sJ (sJ z 0 (u_58.2.1 0)) 1 (u_58.2.1 1))) H := hP
                    refine lv_aload_n hx hb dX6_saysYes_82 rfl (lv_at hl 1 rfl) ?_
                    refine va_get (D := (dC, dI)) (ci := 6) (v := .ref (q 15)) (C := RX6) (T := TX6) (N := 12) hx hb htb inw6 hown hK.1 hP 0 rfl rfl 6 (by decide) (htb _ wmt1_176) (fun _ h9 => h9) rfl dX6_saysYes_83 ?_
                    refine lv_iload_n hx hb dX6_saysYes_86 rfl (lv_at hl 4 rfl) ?_
                    refine zcS_l (w := (zX k q (sJ (sJ z 0 (u_58.2.1 0)) 1 (u_58.2.1 1)))) (wc := (zF k (qof q 15) (xF (sJ (sJ z 0 (u_58.2.1 0)) 1 (u_58.2.1 1))))) (va_runV (As := [.int n]) (rest := []) ⟨hx, hb, hml, hown, htb⟩ (c_X2_told l dC dI k (qof q 15) (xF (sJ (sJ z 0 (u_58.2.1 0)) 1 (u_58.2.1 1))) n _ ) (cwV 1 htb (gzV wmt2_61 wmt2_62 wmt2_63 wmt1_5 wmt2_64) rfl rfl rfl (by decide +kernel) ⟨Nat.le_of_ble_eq_true rfl, Nat.le_of_ble_eq_true rfl⟩) (zp_V (ci := 2) (q0 := 15) hK hP (hDa _) [15] rfl (by decide) rfl rfl) rfl rfl hl.1 rfl (lv_room (Nat.le_of_ble_eq_true rfl)) dX6_saysYes_87 ⟨Nat.le_of_ble_eq_true rfl, Nat.le_of_ble_eq_true rfl⟩) hP (hDa _) hS hA [15] rfl (fun _ => rfl) (fun r_60 u_61 H locs w_62 hP _ hS => ?_)
                    have hP : va_P (dC, dI) vwCl (zX k q (sJ (sJ z 0 (u_58.2.1 0)) 1 (u_58.2.1 1))) H := hP
                    have h_63 := w_62
                    replace h_63 : (n.toInt = 0 → r_60 = (xF (sJ (sJ z 0 (u_58.2.1 0)) 1 (u_58.2.1 1))).2.1 0) ∧ (¬ n.toInt = 0 → r_60 = (xF (sJ (sJ z 0 (u_58.2.1 0)) 1 (u_58.2.1 1))).2.1 1) := h_63
                    exact W.lret (v := r_60) hx hb hr (fun t ht hW => ⟨⟨r_60, (sJ (sJ z 0 (u_58.2.1 0)) 1 (u_58.2.1 1)), rfl, ⟨hI, hT⟩, ⟨by rw [ht]; exact hP, hDa _⟩⟩, hS.F ht⟩) hS.2.2 dX6_saysYes_90
                · skip
                  exact absurd (by decide) c_39
            · skip
              exact absurd c_24 (by decide)
          · skip
            replace e_23 : r_17 = 0 := e_23
            subst e_23
            replace h_22 : ¬ (0 ≤ n.toInt ∧ n.toInt < 2) := h_22
            refine lv_if_ne (tgt := 27) hx hb dX6_saysYes_18 (by decide) (fun c_65 => ?_) (fun c_65 => ?_)
            · skip
              exact absurd c_65 (by decide)
            · skip
              refine lv_bipush (v := (-2)) hx hb dX6_saysYes_21 (by decide) ?_
              refine zc0_l (w := (zX k q z)) (va_runS (As := [.int (-2)]) (rest := []) ⟨hx, hb, hml, hown, htb⟩ (c_X6_asLong l dC dI k (-2) _ ) (va_cwS 1 htb (gzS wmt2_51 wmt2_52 wmt1_1 wmt2_53) rfl rfl rfl (by decide +kernel) ⟨Nat.le_of_ble_eq_true rfl, Nat.le_of_ble_eq_true rfl⟩) (zp0_S hK) rfl rfl hl.1 rfl (lv_room (Nat.le_of_ble_eq_true rfl)) dX6_saysYes_23 ⟨Nat.le_of_ble_eq_true rfl, Nat.le_of_ble_eq_true rfl⟩) hP hS hA (fun r_66 u_67 H locs w_68 hP hS => ?_)
              have h_69 := w_68
              replace h_69 : r_66.toInt = tl ((-2) : Int32) := h_69
              exact W.lret (v := r_66) hx hb hr (fun t ht hW => ⟨⟨r_66, z, rfl, ⟨hI, hT⟩, ⟨by rw [ht]; exact hP, hDa _⟩⟩, hS.F ht⟩) hS.2.2 dX6_saysYes_26
      · skip
        replace e_15 : r_9 = 0 := e_15
        subst e_15
        replace h_14 : ¬ (0 ≤ w.toInt ∧ w.toInt < 2) := h_14
        refine lv_if_eq (tgt := 21) hx hb dX6_saysYes_11 (by decide) (fun c_71 => ?_) (fun c_71 => ?_)
        · skip
          refine lv_bipush (v := (-2)) hx hb dX6_saysYes_21 (by decide) ?_
          refine zc0_l (w := (zX k q z)) (va_runS (As := [.int (-2)]) (rest := []) ⟨hx, hb, hml, hown, htb⟩ (c_X6_asLong l dC dI k (-2) _ ) (va_cwS 1 htb (gzS wmt2_51 wmt2_52 wmt1_1 wmt2_53) rfl rfl rfl (by decide +kernel) ⟨Nat.le_of_ble_eq_true rfl, Nat.le_of_ble_eq_true rfl⟩) (zp0_S hK) rfl rfl hl.1 rfl (lv_room (Nat.le_of_ble_eq_true rfl)) dX6_saysYes_23 ⟨Nat.le_of_ble_eq_true rfl, Nat.le_of_ble_eq_true rfl⟩) hP hS hA (fun r_72 u_73 H locs w_74 hP hS => ?_)
          have h_75 := w_74
          replace h_75 : r_72.toInt = tl ((-2) : Int32) := h_75
          exact W.lret (v := r_72) hx hb hr (fun t ht hW => ⟨⟨r_72, z, rfl, ⟨hI, hT⟩, ⟨by rw [ht]; exact hP, hDa _⟩⟩, hS.F ht⟩) hS.2.2 dX6_saysYes_26
        · skip
          exact absurd (by decide) c_71
  · skip
    replace e_7 : r_1 = 0 := e_7
    subst e_7
    replace h_6 : ¬ (0 ≤ d.toInt ∧ d.toInt < 4) := h_6
    refine lv_if_eq (tgt := 21) hx hb dX6_saysYes_4 (by decide) (fun c_77 => ?_) (fun c_77 => ?_)
    · skip
      refine lv_bipush (v := (-2)) hx hb dX6_saysYes_21 (by decide) ?_
      refine zc0_l (w := (zX k q z)) (va_runS (As := [.int (-2)]) (rest := []) ⟨hx, hb, hml, hown, htb⟩ (c_X6_asLong l dC dI k (-2) _ ) (va_cwS 1 htb (gzS wmt2_51 wmt2_52 wmt1_1 wmt2_53) rfl rfl rfl (by decide +kernel) ⟨Nat.le_of_ble_eq_true rfl, Nat.le_of_ble_eq_true rfl⟩) (zp0_S hK) rfl rfl hl.1 rfl (lv_room (Nat.le_of_ble_eq_true rfl)) dX6_saysYes_23 ⟨Nat.le_of_ble_eq_true rfl, Nat.le_of_ble_eq_true rfl⟩) hP hS hA (fun r_78 u_79 H locs w_80 hP hS => ?_)
      have h_81 := w_80
      replace h_81 : r_78.toInt = tl ((-2) : Int32) := h_81
      exact W.lret (v := r_78) hx hb hr (fun t ht hW => ⟨⟨r_78, z, rfl, ⟨hI, hT⟩, ⟨by rw [ht]; exact hP, hDa _⟩⟩, hS.F ht⟩) hS.2.2 dX6_saysYes_26
    · skip
      exact absurd (by decide) c_77
set_option maxHeartbeats 4000000 in
set_option maxRecDepth 100000 in
theorem c_X6_away (l : Launch) (dC : Nat → ClassId) (dI : Nat → Nat → Nat) (k : Nat → ClassId) (q : Nat → Nat) (z : ZS) (d : Int32) (y : Int32) (w : Int32) (sz : Nat) (hI : XInv z) : Met l yX6_away (wz yX6_away cX6_away 5 (some .long)) ({ frames := 3, cells := 0, slots := 0, locals := 69 }) (va_Pc [.ref (q 0), .int d, .int y, .int w] (zPre dC dI k (zTX k) (zX k q z) sz)) (va_Ql (fun (r : Int64) (u : ZS) => (XInv u) ∧ (trX u = trX z)) (fun u t => zPost dC dI (va_A (zX k q z) sz) (zX k q u) t) (va_A (zX k q z) sz)) 0 0 (va_A (zX k q z) sz) := by
  refine Met.ofW (cc := cX6_away) (maxL := 5) (ret := (some .long)) (by decide) rfl ?_
  intro p e s m args below meth c s₁ B hml hv
  obtain ⟨rfl, hsz, hP, hK, hD0⟩ := hv
  have hx := B.exec
  have hb := B.bytes
  have hr := B.returns
  have hts := atoms_spec (ws := wz yX6_away cX6_away 5 (some .long)) B.pre
  have htb : ∀ w ∈ zw, w.before _ s = true := fun w h => hts w (List.mem_cons_of_mem _ h)
  have hown : s.vm.findClass RX6 = some m.cls := findClass_of_methodNamed B.named
  have hlocks := B.notSynchronized
  clear hts
  subst hsz
  have hD := hD0.self (sz := s.heap.size)
  generalize hAe : va_A (zX k q z) s.heap.size = A at hD ⊢
  have hA : ∀ q : Nat, s.heap.size ≤ q → A q := fun q h => by rw [← hAe]; exact Or.inr h
  have hDa : ∀ z9 : ZS, va_D A (zX k q z9) := fun z9 => va_D_adr (w := zX k q z) rfl hD
  have hl := lv_entry ([.ref (q 0), .int d, .int y, .int w]) (n := 5) (Nat.le_of_ble_eq_true rfl)
  rw [lg_entry_eq]
  generalize (lg_sl ([.ref (q 0), .int d, .int y, .int w]) ++ List.replicate (5 - (lg_sl ([.ref (q 0), .int d, .int y, .int w])).length) Slot.unset).toArray = ls at hl ⊢
  have hl : lv_has ls 5 [(0, .ref (q 0)), (1, .int d), (2, .int y), (3, .int w)] := hl
  refine z_start2 (A := A) (w := (zX k q z)) hP (fun H locs hP hS => ?_)
  clear hD0 hAe
  have hT : trX z = trX z := rfl
  refine lv_iload_n hx hb dX6_away_0 rfl (lv_at hl 1 rfl) ?_
  refine zc0_i (w := (zX k q z)) (va_runS (As := [.int d]) (rest := []) ⟨hx, hb, hml, hown, htb⟩ (c_X6_isDesign l dC dI k d _ ) (va_cwS 1 htb (gzS wmt1_211 wmt1_212 wmt1_1 wmt1_213) rfl rfl rfl (by decide +kernel) ⟨Nat.le_of_ble_eq_true rfl, Nat.le_of_ble_eq_true rfl⟩) (zp0_S hK) rfl rfl hl.1 rfl (lv_room (Nat.le_of_ble_eq_true rfl)) dX6_away_1 ⟨Nat.le_of_ble_eq_true rfl, Nat.le_of_ble_eq_true rfl⟩) hP hS hA (fun r_1 u_2 H locs w_3 hP hS => ?_)
  rcases w_3 with ⟨e_5, h_4⟩ | ⟨e_7, h_6⟩
  · skip
    replace e_5 : r_1 = 1 := e_5
    subst e_5
    replace h_4 : 0 ≤ d.toInt ∧ d.toInt < 4 := h_4
    refine lv_if_eq (tgt := 21) hx hb dX6_away_4 (by decide) (fun c_8 => ?_) (fun c_8 => ?_)
    · skip
      exact absurd c_8 (by decide)
    · skip
      refine lv_iload_n hx hb dX6_away_7 rfl (lv_at hl 2 rfl) ?_
      refine zc0_i (w := (zX k q z)) (va_runS (As := [.int y]) (rest := []) ⟨hx, hb, hml, hown, htb⟩ (c_X6_isEither l dC dI k y _ ) (va_cwS 1 htb (gzS wmt2_48 wmt2_49 wmt1_1 wmt2_50) rfl rfl rfl (by decide +kernel) ⟨Nat.le_of_ble_eq_true rfl, Nat.le_of_ble_eq_true rfl⟩) (zp0_S hK) rfl rfl hl.1 rfl (lv_room (Nat.le_of_ble_eq_true rfl)) dX6_away_8 ⟨Nat.le_of_ble_eq_true rfl, Nat.le_of_ble_eq_true rfl⟩) hP hS hA (fun r_9 u_10 H locs w_11 hP hS => ?_)
      rcases w_11 with ⟨e_13, h_12⟩ | ⟨e_15, h_14⟩
      · skip
        replace e_13 : r_9 = 1 := e_13
        subst e_13
        replace h_12 : 0 ≤ y.toInt ∧ y.toInt < 2 := h_12
        refine lv_if_eq (tgt := 21) hx hb dX6_away_11 (by decide) (fun c_16 => ?_) (fun c_16 => ?_)
        · skip
          exact absurd c_16 (by decide)
        · skip
          refine lv_iload_n hx hb dX6_away_14 rfl (lv_at hl 3 rfl) ?_
          refine zc0_i (w := (zX k q z)) (va_runS (As := [.int w]) (rest := []) ⟨hx, hb, hml, hown, htb⟩ (c_X6_isEither l dC dI k w _ ) (va_cwS 1 htb (gzS wmt2_48 wmt2_49 wmt1_1 wmt2_50) rfl rfl rfl (by decide +kernel) ⟨Nat.le_of_ble_eq_true rfl, Nat.le_of_ble_eq_true rfl⟩) (zp0_S hK) rfl rfl hl.1 rfl (lv_room (Nat.le_of_ble_eq_true rfl)) dX6_away_15 ⟨Nat.le_of_ble_eq_true rfl, Nat.le_of_ble_eq_true rfl⟩) hP hS hA (fun r_17 u_18 H locs w_19 hP hS => ?_)
          rcases w_19 with ⟨e_21, h_20⟩ | ⟨e_23, h_22⟩
          · skip
            replace e_21 : r_17 = 1 := e_21
            subst e_21
            replace h_20 : 0 ≤ w.toInt ∧ w.toInt < 2 := h_20
            refine lv_if_ne (tgt := 27) hx hb dX6_away_18 (by decide) (fun c_24 => ?_) (fun c_24 => ?_)
            · skip
              refine lv_aload_n hx hb dX6_away_27 rfl (lv_at hl 0 rfl) ?_
              refine va_get (D := (dC, dI)) (ci := 6) (v := .ref (q 1)) (C := RX6) (T := TX6) (N := 12) hx hb htb inw6 hown hK.1 hP 0 rfl rfl 0 (by decide) (htb _ wmt1_170) (fun _ h9 => h9) rfl dX6_away_28 ?_
              refine lv_iload_n hx hb dX6_away_31 rfl (lv_at hl 1 rfl) ?_
              refine va_aldq (D := (dC, dI)) hx hb hK.1 hP 1 3 rfl rfl (z_in (by omega)) dX6_away_32 ?_
              obtain ⟨d_25, ed_25⟩ : ∃ x : Nat, x = d.toNatClampNeg := ⟨_, rfl⟩
              have hd_25 : d_25 < 4 := by rw [ed_25]; exact z_cl4 (by omega)
              refine z_top (v2 := .ref (qD q d_25 0)) (zgD_at2 ed_25 hd_25) ?_
              refine lv_astore (lv' := [(4, .ref (qD q d_25 0)), (0, .ref (q 0)), (1, .int d), (2, .int y), (3, .int w)]) hx hb dX6_away_33 hl (by decide) rfl (fun ls hl => ?_)
              refine lv_aload hx hb dX6_away_35 (lv_at hl 0 rfl) ?_
              refine zcS_i (w := (zX k q z)) (wc := (zD k (qD q d_25) (xD z d_25))) (va_runV (As := []) (rest := []) ⟨hx, hb, hml, hown, htb⟩ (c_X1_isFaulty l dC dI k (qD q d_25) (xD z d_25) _ ) (cwV 0 htb (gzV wmt2_55 wmt2_20 wmt2_21 wmt1_6 wmt2_22) rfl rfl rfl (by decide +kernel) ⟨Nat.le_of_ble_eq_true rfl, Nat.le_of_ble_eq_true rfl⟩) (zp_V (ci := 1) (q0 := (16 + 3 * d_25)) hK hP (hDa _) [16 + 3 * d_25, 17 + 3 * d_25, 18 + 3 * d_25] (zX_DC hd_25) (zX_ndD hd_25) rfl (zX_D0 hd_25)) rfl rfl hl.1 rfl (lv_room (Nat.le_of_ble_eq_true rfl)) dX6_away_37 ⟨Nat.le_of_ble_eq_true rfl, Nat.le_of_ble_eq_true rfl⟩) hP (hDa _) hS hA [16 + 3 * d_25, 17 + 3 * d_25, 18 + 3 * d_25] (zX_DC hd_25) (fun _ => rfl) (fun r_26 u_27 H locs w_28 hP _ hS => ?_)
              have hP : va_P (dC, dI) vwCl (zX k q z) H := (zX_Dkeep hd_25) ▸ hP
              rcases w_28 with ⟨e_30, h_29⟩ | ⟨e_32, h_31⟩
              · skip
                replace e_30 : r_26 = 1 := e_30
                subst e_30
                replace h_29 : ¬ ((xD z d_25).1 2).toInt = -1 := h_29
                refine lv_if_ne (tgt := 54) hx hb dX6_away_40 (by decide) (fun c_33 => ?_) (fun c_33 => ?_)
                · skip
                  refine lv_bipush (v := (-3)) hx hb dX6_away_54 (by decide) ?_
                  refine zc0_l (w := (zX k q z)) (va_runS (As := [.int (-3)]) (rest := []) ⟨hx, hb, hml, hown, htb⟩ (c_X6_asLong l dC dI k (-3) _ ) (va_cwS 1 htb (gzS wmt2_51 wmt2_52 wmt1_1 wmt2_53) rfl rfl rfl (by decide +kernel) ⟨Nat.le_of_ble_eq_true rfl, Nat.le_of_ble_eq_true rfl⟩) (zp0_S hK) rfl rfl hl.1 rfl (lv_room (Nat.le_of_ble_eq_true rfl)) dX6_away_56 ⟨Nat.le_of_ble_eq_true rfl, Nat.le_of_ble_eq_true rfl⟩) hP hS hA (fun r_34 u_35 H locs w_36 hP hS => ?_)
                  have h_37 := w_36
                  replace h_37 : r_34.toInt = tl ((-3) : Int32) := h_37
                  exact W.lret (v := r_34) hx hb hr (fun t ht hW => ⟨⟨r_34, z, rfl, ⟨hI, hT⟩, ⟨by rw [ht]; exact hP, hDa _⟩⟩, hS.F ht⟩) hS.2.2 dX6_away_59
                · skip
                  exact absurd c_33 (by decide)
              · skip
                replace e_32 : r_26 = 0 := e_32
                subst e_32
                replace h_31 : ((xD z d_25).1 2).toInt = -1 := h_31
                refine lv_if_ne (tgt := 54) hx hb dX6_away_40 (by decide) (fun c_39 => ?_) (fun c_39 => ?_)
                · skip
                  exact absurd c_39 (by decide)
                · skip
                  refine lv_aload hx hb dX6_away_43 (lv_at hl 0 rfl) ?_
                  refine lv_iload_n hx hb dX6_away_45 rfl (lv_at hl 3 rfl) ?_
                  refine zcS_l (w := (zX k q z)) (wc := (zD k (qD q d_25) (xD z d_25))) (va_runV (As := [.int y]) (rest := []) ⟨hx, hb, hml, hown, htb⟩ (c_X1_lotsIfHasNot l dC dI k (qD q d_25) (xD z d_25) y _ ) (cwV 1 htb (gzV wmt2_231 wmt2_192 wmt2_193 wmt1_6 wmt2_194) rfl rfl rfl (by decide +kernel) ⟨Nat.le_of_ble_eq_true rfl, Nat.le_of_ble_eq_true rfl⟩) (zp_V (ci := 1) (q0 := (16 + 3 * d_25)) hK hP (hDa _) [16 + 3 * d_25, 17 + 3 * d_25, 18 + 3 * d_25] (zX_DC hd_25) (zX_ndD hd_25) rfl (zX_D0 hd_25)) rfl rfl hl.1 rfl (lv_room (Nat.le_of_ble_eq_true rfl)) dX6_away_46 ⟨Nat.le_of_ble_eq_true rfl, Nat.le_of_ble_eq_true rfl⟩) hP (hDa _) hS hA [16 + 3 * d_25, 17 + 3 * d_25, 18 + 3 * d_25] (zX_DC hd_25) (fun _ => rfl) (fun r_40 u_41 H locs w_42 hP _ hS => ?_)
                  have hP : va_P (dC, dI) vwCl (zX k q z) H := (zX_Dkeep hd_25) ▸ hP
                  refine lv_lconst (v := 0) hx hb dX6_away_49 (by decide) ?_
                  refine z_lcmp hx hb dX6_away_50 ?_
                  refine lv_if_ne (tgt := 60) hx hb dX6_away_51 (by decide) (fun c_43 => ?_) (fun c_43 => ?_)
                  · skip
                    have hc_43 := zl_ne rfl (show (0 : Int64).toInt = 0 by decide) c_43
                    refine lv_aload_n hx hb dX6_away_60 rfl (lv_at hl 1 rfl) ?_
                    refine va_get (D := (dC, dI)) (ci := 6) (v := .ref (q 15)) (C := RX6) (T := TX6) (N := 12) hx hb htb inw6 hown hK.1 hP 0 rfl rfl 6 (by decide) (htb _ wmt1_176) (fun _ h9 => h9) rfl dX6_away_61 ?_
                    refine lv_aload hx hb dX6_away_64 (lv_at hl 0 rfl) ?_
                    refine lv_iload_n hx hb dX6_away_66 rfl (lv_at hl 3 rfl) ?_
                    refine zcS_l (w := (zX k q z)) (wc := (zD k (qD q d_25) (xD z d_25))) (va_runV (As := [.int y]) (rest := [.ref (q 15)]) ⟨hx, hb, hml, hown, htb⟩ (c_X1_lotsIfHas l dC dI k (qD q d_25) (xD z d_25) y _ ) (cwV 1 htb (gzV wmt2_232 wmt2_188 wmt2_189 wmt1_6 wmt2_190) rfl rfl rfl (by decide +kernel) ⟨Nat.le_of_ble_eq_true rfl, Nat.le_of_ble_eq_true rfl⟩) (zp_V (ci := 1) (q0 := (16 + 3 * d_25)) hK hP (hDa _) [16 + 3 * d_25, 17 + 3 * d_25, 18 + 3 * d_25] (zX_DC hd_25) (zX_ndD hd_25) rfl (zX_D0 hd_25)) rfl rfl hl.1 rfl (lv_room (Nat.le_of_ble_eq_true rfl)) dX6_away_67 ⟨Nat.le_of_ble_eq_true rfl, Nat.le_of_ble_eq_true rfl⟩) hP (hDa _) hS hA [16 + 3 * d_25, 17 + 3 * d_25, 18 + 3 * d_25] (zX_DC hd_25) (fun _ => rfl) (fun r_44 u_45 H locs w_46 hP _ hS => ?_)
                    have hP : va_P (dC, dI) vwCl (zX k q z) H := (zX_Dkeep hd_25) ▸ hP
                    refine lv_aload hx hb dX6_away_70 (lv_at hl 0 rfl) ?_
                    refine lv_iload_n hx hb dX6_away_72 rfl (lv_at hl 3 rfl) ?_
                    refine zcS_l (w := (zX k q z)) (wc := (zD k (qD q d_25) (xD z d_25))) (va_runV (As := [.int y]) (rest := [.long r_44, .ref (q 15)]) ⟨hx, hb, hml, hown, htb⟩ (c_X1_lotsIfHasNot l dC dI k (qD q d_25) (xD z d_25) y _ ) (cwV 1 htb (gzV wmt2_231 wmt2_192 wmt2_193 wmt1_6 wmt2_194) rfl rfl rfl (by decide +kernel) ⟨Nat.le_of_ble_eq_true rfl, Nat.le_of_ble_eq_true rfl⟩) (zp_V (ci := 1) (q0 := (16 + 3 * d_25)) hK hP (hDa _) [16 + 3 * d_25, 17 + 3 * d_25, 18 + 3 * d_25] (zX_DC hd_25) (zX_ndD hd_25) rfl (zX_D0 hd_25)) rfl rfl hl.1 rfl (lv_room (Nat.le_of_ble_eq_true rfl)) dX6_away_73 ⟨Nat.le_of_ble_eq_true rfl, Nat.le_of_ble_eq_true rfl⟩) hP (hDa _) hS hA [16 + 3 * d_25, 17 + 3 * d_25, 18 + 3 * d_25] (zX_DC hd_25) (fun _ => rfl) (fun r_47 u_48 H locs w_49 hP _ hS => ?_)
                    have hP : va_P (dC, dI) vwCl (zX k q z) H := (zX_Dkeep hd_25) ▸ hP
                    refine zcS_v (w := (zX k q z)) (wc := (zF k (qof q 15) (xF z))) (va_runV (As := [.long r_44, .long r_47]) (rest := []) ⟨hx, hb, hml, hown, htb⟩ (c_X2_become l dC dI k (qof q 15) (xF z) r_44 r_47 _ ) (cwV 2 htb (gzV wmt2_56 wmt2_57 wmt2_58 wmt1_5 wmt2_59) rfl rfl rfl (by decide +kernel) ⟨Nat.le_of_ble_eq_true rfl, Nat.le_of_ble_eq_true rfl⟩) (zp_V (ci := 2) (q0 := 15) hK hP (hDa _) [15] rfl (by decide) rfl rfl) rfl rfl hl.1 rfl (lv_room (Nat.le_of_ble_eq_true rfl)) dX6_away_76 ⟨Nat.le_of_ble_eq_true rfl, Nat.le_of_ble_eq_true rfl⟩) hP (hDa _) hS hA [15] rfl (fun _ => rfl) (fun u_51 H locs w_52 hP _ hS => ?_)
                    have hP : va_P (dC, dI) vwCl (zX k q (sJ (sJ z 0 (u_51.2.1 0)) 1 (u_51.2.1 1))) H := hP
                    refine lv_aload_n hx hb dX6_away_79 rfl (lv_at hl 1 rfl) ?_
                    refine va_get (D := (dC, dI)) (ci := 6) (v := .ref (q 15)) (C := RX6) (T := TX6) (N := 12) hx hb htb inw6 hown hK.1 hP 0 rfl rfl 6 (by decide) (htb _ wmt1_176) (fun _ h9 => h9) rfl dX6_away_80 ?_
                    refine lv_iload_n hx hb dX6_away_83 rfl (lv_at hl 4 rfl) ?_
                    refine zcS_l (w := (zX k q (sJ (sJ z 0 (u_51.2.1 0)) 1 (u_51.2.1 1)))) (wc := (zF k (qof q 15) (xF (sJ (sJ z 0 (u_51.2.1 0)) 1 (u_51.2.1 1))))) (va_runV (As := [.int w]) (rest := []) ⟨hx, hb, hml, hown, htb⟩ (c_X2_told l dC dI k (qof q 15) (xF (sJ (sJ z 0 (u_51.2.1 0)) 1 (u_51.2.1 1))) w _ ) (cwV 1 htb (gzV wmt2_61 wmt2_62 wmt2_63 wmt1_5 wmt2_64) rfl rfl rfl (by decide +kernel) ⟨Nat.le_of_ble_eq_true rfl, Nat.le_of_ble_eq_true rfl⟩) (zp_V (ci := 2) (q0 := 15) hK hP (hDa _) [15] rfl (by decide) rfl rfl) rfl rfl hl.1 rfl (lv_room (Nat.le_of_ble_eq_true rfl)) dX6_away_84 ⟨Nat.le_of_ble_eq_true rfl, Nat.le_of_ble_eq_true rfl⟩) hP (hDa _) hS hA [15] rfl (fun _ => rfl) (fun r_53 u_54 H locs w_55 hP _ hS => ?_)
                    have hP : va_P (dC, dI) vwCl (zX k q (sJ (sJ z 0 (u_51.2.1 0)) 1 (u_51.2.1 1))) H := hP
                    have h_56 := w_55
                    replace h_56 : (w.toInt = 0 → r_53 = (xF (sJ (sJ z 0 (u_51.2.1 0)) 1 (u_51.2.1 1))).2.1 0) ∧ (¬ w.toInt = 0 → r_53 = (xF (sJ (sJ z 0 (u_51.2.1 0)) 1 (u_51.2.1 1))).2.1 1) := h_56
                    exact W.lret (v := r_53) hx hb hr (fun t ht hW => ⟨⟨r_53, (sJ (sJ z 0 (u_51.2.1 0)) 1 (u_51.2.1 1)), rfl, ⟨hI, hT⟩, ⟨by rw [ht]; exact hP, hDa _⟩⟩, hS.F ht⟩) hS.2.2 dX6_away_87
                  · skip
                    have hc_43 := zl_eq rfl (show (0 : Int64).toInt = 0 by decide) c_43
                    refine lv_bipush (v := (-3)) hx hb dX6_away_54 (by decide) ?_
                    refine zc0_l (w := (zX k q z)) (va_runS (As := [.int (-3)]) (rest := []) ⟨hx, hb, hml, hown, htb⟩ (c_X6_asLong l dC dI k (-3) _ ) (va_cwS 1 htb (gzS wmt2_51 wmt2_52 wmt1_1 wmt2_53) rfl rfl rfl (by decide +kernel) ⟨Nat.le_of_ble_eq_true rfl, Nat.le_of_ble_eq_true rfl⟩) (zp0_S hK) rfl rfl hl.1 rfl (lv_room (Nat.le_of_ble_eq_true rfl)) dX6_away_56 ⟨Nat.le_of_ble_eq_true rfl, Nat.le_of_ble_eq_true rfl⟩) hP hS hA (fun r_58 u_59 H locs w_60 hP hS => ?_)
                    have h_61 := w_60
                    replace h_61 : r_58.toInt = tl ((-3) : Int32) := h_61
                    exact W.lret (v := r_58) hx hb hr (fun t ht hW => ⟨⟨r_58, z, rfl, ⟨hI, hT⟩, ⟨by rw [ht]; exact hP, hDa _⟩⟩, hS.F ht⟩) hS.2.2 dX6_away_59
            · skip
              exact absurd c_24 (by decide)
          · skip
            replace e_23 : r_17 = 0 := e_23
            subst e_23
            replace h_22 : ¬ (0 ≤ w.toInt ∧ w.toInt < 2) := h_22
            refine lv_if_ne (tgt := 27) hx hb dX6_away_18 (by decide) (fun c_63 => ?_) (fun c_63 => ?_)
            · skip
              exact absurd c_63 (by decide)
            · skip
              refine lv_bipush (v := (-2)) hx hb dX6_away_21 (by decide) ?_
              refine zc0_l (w := (zX k q z)) (va_runS (As := [.int (-2)]) (rest := []) ⟨hx, hb, hml, hown, htb⟩ (c_X6_asLong l dC dI k (-2) _ ) (va_cwS 1 htb (gzS wmt2_51 wmt2_52 wmt1_1 wmt2_53) rfl rfl rfl (by decide +kernel) ⟨Nat.le_of_ble_eq_true rfl, Nat.le_of_ble_eq_true rfl⟩) (zp0_S hK) rfl rfl hl.1 rfl (lv_room (Nat.le_of_ble_eq_true rfl)) dX6_away_23 ⟨Nat.le_of_ble_eq_true rfl, Nat.le_of_ble_eq_true rfl⟩) hP hS hA (fun r_64 u_65 H locs w_66 hP hS => ?_)
              have h_67 := w_66
              replace h_67 : r_64.toInt = tl ((-2) : Int32) := h_67
              exact W.lret (v := r_64) hx hb hr (fun t ht hW => ⟨⟨r_64, z, rfl, ⟨hI, hT⟩, ⟨by rw [ht]; exact hP, hDa _⟩⟩, hS.F ht⟩) hS.2.2 dX6_away_26
      · skip
        replace e_15 : r_9 = 0 := e_15
        subst e_15
        replace h_14 : ¬ (0 ≤ y.toInt ∧ y.toInt < 2) := h_14
        refine lv_if_eq (tgt := 21) hx hb dX6_away_11 (by decide) (fun c_69 => ?_) (fun c_69 => ?_)
        · skip
          refine lv_bipush (v := (-2)) hx hb dX6_away_21 (by decide) ?_
          refine zc0_l (w := (zX k q z)) (va_runS (As := [.int (-2)]) (rest := []) ⟨hx, hb, hml, hown, htb⟩ (c_X6_asLong l dC dI k (-2) _ ) (va_cwS 1 htb (gzS wmt2_51 wmt2_52 wmt1_1 wmt2_53) rfl rfl rfl (by decide +kernel) ⟨Nat.le_of_ble_eq_true rfl, Nat.le_of_ble_eq_true rfl⟩) (zp0_S hK) rfl rfl hl.1 rfl (lv_room (Nat.le_of_ble_eq_true rfl)) dX6_away_23 ⟨Nat.le_of_ble_eq_true rfl, Nat.le_of_ble_eq_true rfl⟩) hP hS hA (fun r_70 u_71 H locs w_72 hP hS => ?_)
          have h_73 := w_72
          replace h_73 : r_70.toInt = tl ((-2) : Int32) := h_73
          exact W.lret (v := r_70) hx hb hr (fun t ht hW => ⟨⟨r_70, z, rfl, ⟨hI, hT⟩, ⟨by rw [ht]; exact hP, hDa _⟩⟩, hS.F ht⟩) hS.2.2 dX6_away_26
        · skip
          exact absurd (by decide) c_69
  · skip
    replace e_7 : r_1 = 0 := e_7
    subst e_7
    replace h_6 : ¬ (0 ≤ d.toInt ∧ d.toInt < 4) := h_6
    refine lv_if_eq (tgt := 21) hx hb dX6_away_4 (by decide) (fun c_75 => ?_) (fun c_75 => ?_)
    · skip
      refine lv_bipush (v := (-2)) hx hb dX6_away_21 (by decide) ?_
      refine zc0_l (w := (zX k q z)) (va_runS (As := [.int (-2)]) (rest := []) ⟨hx, hb, hml, hown, htb⟩ (c_X6_asLong l dC dI k (-2) _ ) (va_cwS 1 htb (gzS wmt2_51 wmt2_52 wmt1_1 wmt2_53) rfl rfl rfl (by decide +kernel) ⟨Nat.le_of_ble_eq_true rfl, Nat.le_of_ble_eq_true rfl⟩) (zp0_S hK) rfl rfl hl.1 rfl (lv_room (Nat.le_of_ble_eq_true rfl)) dX6_away_23 ⟨Nat.le_of_ble_eq_true rfl, Nat.le_of_ble_eq_true rfl⟩) hP hS hA (fun r_76 u_77 H locs w_78 hP hS => ?_)
      have h_79 := w_78
      replace h_79 : r_76.toInt = tl ((-2) : Int32) := h_79
      exact W.lret (v := r_76) hx hb hr (fun t ht hW => ⟨⟨r_76, z, rfl, ⟨hI, hT⟩, ⟨by rw [ht]; exact hP, hDa _⟩⟩, hS.F ht⟩) hS.2.2 dX6_away_26
    · skip
      exact absurd (by decide) c_75
set_option maxHeartbeats 4000000 in
set_option maxRecDepth 100000 in
theorem c_X6_exposed (l : Launch) (dC : Nat → ClassId) (dI : Nat → Nat → Nat) (k : Nat → ClassId) (q : Nat → Nat) (z : ZS) (d : Int32) (w : Int32) (sz : Nat) (hI : XInv z) : Met l yX6_exposed (wz yX6_exposed cX6_exposed 12 (some .long)) ({ frames := 3, cells := 0, slots := 0, locals := 69 }) (va_Pc [.ref (q 0), .int d, .int w] (zPre dC dI k (zTX k) (zX k q z) sz)) (va_Ql (fun (r : Int64) (u : ZS) => (XInv u) ∧ (trX u = trX z)) (fun u t => zPost dC dI (va_A (zX k q z) sz) (zX k q u) t) (va_A (zX k q z) sz)) 0 0 (va_A (zX k q z) sz) := by
  refine Met.ofW (cc := cX6_exposed) (maxL := 12) (ret := (some .long)) (by decide) rfl ?_
  intro p e s m args below meth c s₁ B hml hv
  obtain ⟨rfl, hsz, hP, hK, hD0⟩ := hv
  have hx := B.exec
  have hb := B.bytes
  have hr := B.returns
  have hts := atoms_spec (ws := wz yX6_exposed cX6_exposed 12 (some .long)) B.pre
  have htb : ∀ w ∈ zw, w.before _ s = true := fun w h => hts w (List.mem_cons_of_mem _ h)
  have hown : s.vm.findClass RX6 = some m.cls := findClass_of_methodNamed B.named
  have hlocks := B.notSynchronized
  clear hts
  subst hsz
  have hD := hD0.self (sz := s.heap.size)
  generalize hAe : va_A (zX k q z) s.heap.size = A at hD ⊢
  have hA : ∀ q : Nat, s.heap.size ≤ q → A q := fun q h => by rw [← hAe]; exact Or.inr h
  have hDa : ∀ z9 : ZS, va_D A (zX k q z9) := fun z9 => va_D_adr (w := zX k q z) rfl hD
  have hl := lv_entry ([.ref (q 0), .int d, .int w]) (n := 12) (Nat.le_of_ble_eq_true rfl)
  rw [lg_entry_eq]
  generalize (lg_sl ([.ref (q 0), .int d, .int w]) ++ List.replicate (12 - (lg_sl ([.ref (q 0), .int d, .int w])).length) Slot.unset).toArray = ls at hl ⊢
  have hl : lv_has ls 12 [(0, .ref (q 0)), (1, .int d), (2, .int w)] := hl
  refine z_start2 (A := A) (w := (zX k q z)) hP (fun H locs hP hS => ?_)
  clear hD0 hAe
  have hT : trX z = trX z := rfl
  refine lv_iload_n hx hb dX6_exposed_0 rfl (lv_at hl 1 rfl) ?_
  refine zc0_i (w := (zX k q z)) (va_runS (As := [.int d]) (rest := []) ⟨hx, hb, hml, hown, htb⟩ (c_X6_isDesign l dC dI k d _ ) (va_cwS 1 htb (gzS wmt1_211 wmt1_212 wmt1_1 wmt1_213) rfl rfl rfl (by decide +kernel) ⟨Nat.le_of_ble_eq_true rfl, Nat.le_of_ble_eq_true rfl⟩) (zp0_S hK) rfl rfl hl.1 rfl (lv_room (Nat.le_of_ble_eq_true rfl)) dX6_exposed_1 ⟨Nat.le_of_ble_eq_true rfl, Nat.le_of_ble_eq_true rfl⟩) hP hS hA (fun r_1 u_2 H locs w_3 hP hS => ?_)
  rcases w_3 with ⟨e_5, h_4⟩ | ⟨e_7, h_6⟩
  · skip
    replace e_5 : r_1 = 1 := e_5
    subst e_5
    replace h_4 : 0 ≤ d.toInt ∧ d.toInt < 4 := h_4
    refine lv_if_eq (tgt := 14) hx hb dX6_exposed_4 (by decide) (fun c_8 => ?_) (fun c_8 => ?_)
    · skip
      exact absurd c_8 (by decide)
    · skip
      refine lv_iload_n hx hb dX6_exposed_7 rfl (lv_at hl 2 rfl) ?_
      refine zc0_i (w := (zX k q z)) (va_runS (As := [.int w]) (rest := []) ⟨hx, hb, hml, hown, htb⟩ (c_X6_isEither l dC dI k w _ ) (va_cwS 1 htb (gzS wmt2_48 wmt2_49 wmt1_1 wmt2_50) rfl rfl rfl (by decide +kernel) ⟨Nat.le_of_ble_eq_true rfl, Nat.le_of_ble_eq_true rfl⟩) (zp0_S hK) rfl rfl hl.1 rfl (lv_room (Nat.le_of_ble_eq_true rfl)) dX6_exposed_8 ⟨Nat.le_of_ble_eq_true rfl, Nat.le_of_ble_eq_true rfl⟩) hP hS hA (fun r_9 u_10 H locs w_11 hP hS => ?_)
      rcases w_11 with ⟨e_13, h_12⟩ | ⟨e_15, h_14⟩
      · skip
        replace e_13 : r_9 = 1 := e_13
        subst e_13
        replace h_12 : 0 ≤ w.toInt ∧ w.toInt < 2 := h_12
        refine lv_if_ne (tgt := 20) hx hb dX6_exposed_11 (by decide) (fun c_16 => ?_) (fun c_16 => ?_)
        · skip
          refine lv_aload_n hx hb dX6_exposed_20 rfl (lv_at hl 0 rfl) ?_
          refine va_get (D := (dC, dI)) (ci := 6) (v := .ref (q 1)) (C := RX6) (T := TX6) (N := 12) hx hb htb inw6 hown hK.1 hP 0 rfl rfl 0 (by decide) (htb _ wmt1_170) (fun _ h9 => h9) rfl dX6_exposed_21 ?_
          refine lv_iload_n hx hb dX6_exposed_24 rfl (lv_at hl 1 rfl) ?_
          refine va_aldq (D := (dC, dI)) hx hb hK.1 hP 1 3 rfl rfl (z_in (by omega)) dX6_exposed_25 ?_
          obtain ⟨d_17, ed_17⟩ : ∃ x : Nat, x = d.toNatClampNeg := ⟨_, rfl⟩
          have hd_17 : d_17 < 4 := by rw [ed_17]; exact z_cl4 (by omega)
          refine z_top (v2 := .ref (qD q d_17 0)) (zgD_at2 ed_17 hd_17) ?_
          refine lv_astore_n (lv' := [(3, .ref (qD q d_17 0)), (0, .ref (q 0)), (1, .int d), (2, .int w)]) hx hb dX6_exposed_26 rfl hl (by decide) rfl (fun ls hl => ?_)
          refine lv_aload_n hx hb dX6_exposed_27 rfl (lv_at hl 0 rfl) ?_
          refine zcS_i (w := (zX k q z)) (wc := (zD k (qD q d_17) (xD z d_17))) (va_runV (As := []) (rest := []) ⟨hx, hb, hml, hown, htb⟩ (c_X1_isFaulty l dC dI k (qD q d_17) (xD z d_17) _ ) (cwV 0 htb (gzV wmt2_55 wmt2_20 wmt2_21 wmt1_6 wmt2_22) rfl rfl rfl (by decide +kernel) ⟨Nat.le_of_ble_eq_true rfl, Nat.le_of_ble_eq_true rfl⟩) (zp_V (ci := 1) (q0 := (16 + 3 * d_17)) hK hP (hDa _) [16 + 3 * d_17, 17 + 3 * d_17, 18 + 3 * d_17] (zX_DC hd_17) (zX_ndD hd_17) rfl (zX_D0 hd_17)) rfl rfl hl.1 rfl (lv_room (Nat.le_of_ble_eq_true rfl)) dX6_exposed_28 ⟨Nat.le_of_ble_eq_true rfl, Nat.le_of_ble_eq_true rfl⟩) hP (hDa _) hS hA [16 + 3 * d_17, 17 + 3 * d_17, 18 + 3 * d_17] (zX_DC hd_17) (fun _ => rfl) (fun r_18 u_19 H locs w_20 hP _ hS => ?_)
          have hP : va_P (dC, dI) vwCl (zX k q z) H := (zX_Dkeep hd_17) ▸ hP
          rcases w_20 with ⟨e_22, h_21⟩ | ⟨e_24, h_23⟩
          · skip
            replace e_22 : r_18 = 1 := e_22
            subst e_22
            replace h_21 : ¬ ((xD z d_17).1 2).toInt = -1 := h_21
            refine lv_if_ne (tgt := 41) hx hb dX6_exposed_31 (by decide) (fun c_25 => ?_) (fun c_25 => ?_)
            · skip
              refine lv_bipush (v := (-3)) hx hb dX6_exposed_41 (by decide) ?_
              refine zc0_l (w := (zX k q z)) (va_runS (As := [.int (-3)]) (rest := []) ⟨hx, hb, hml, hown, htb⟩ (c_X6_asLong l dC dI k (-3) _ ) (va_cwS 1 htb (gzS wmt2_51 wmt2_52 wmt1_1 wmt2_53) rfl rfl rfl (by decide +kernel) ⟨Nat.le_of_ble_eq_true rfl, Nat.le_of_ble_eq_true rfl⟩) (zp0_S hK) rfl rfl hl.1 rfl (lv_room (Nat.le_of_ble_eq_true rfl)) dX6_exposed_43 ⟨Nat.le_of_ble_eq_true rfl, Nat.le_of_ble_eq_true rfl⟩) hP hS hA (fun r_26 u_27 H locs w_28 hP hS => ?_)
              have h_29 := w_28
              replace h_29 : r_26.toInt = tl ((-3) : Int32) := h_29
              exact W.lret (v := r_26) hx hb hr (fun t ht hW => ⟨⟨r_26, z, rfl, ⟨hI, hT⟩, ⟨by rw [ht]; exact hP, hDa _⟩⟩, hS.F ht⟩) hS.2.2 dX6_exposed_46
            · skip
              exact absurd c_25 (by decide)
          · skip
            replace e_24 : r_18 = 0 := e_24
            subst e_24
            replace h_23 : ((xD z d_17).1 2).toInt = -1 := h_23
            refine lv_if_ne (tgt := 41) hx hb dX6_exposed_31 (by decide) (fun c_31 => ?_) (fun c_31 => ?_)
            · skip
              exact absurd c_31 (by decide)
            · skip
              refine lv_aload_n hx hb dX6_exposed_34 rfl (lv_at hl 0 rfl) ?_
              refine zcS_i (w := (zX k q z)) (wc := (zD k (qD q d_17) (xD z d_17))) (va_runV (As := []) (rest := []) ⟨hx, hb, hml, hown, htb⟩ (c_X1_isOpen l dC dI k (qD q d_17) (xD z d_17) _ ) (cwV 0 htb (gzV wmt3_30 wmt3_31 wmt3_32 wmt1_6 wmt3_33) rfl rfl rfl (by decide +kernel) ⟨Nat.le_of_ble_eq_true rfl, Nat.le_of_ble_eq_true rfl⟩) (zp_V (ci := 1) (q0 := (16 + 3 * d_17)) hK hP (hDa _) [16 + 3 * d_17, 17 + 3 * d_17, 18 + 3 * d_17] (zX_DC hd_17) (zX_ndD hd_17) rfl (zX_D0 hd_17)) rfl rfl hl.1 rfl (lv_room (Nat.le_of_ble_eq_true rfl)) dX6_exposed_35 ⟨Nat.le_of_ble_eq_true rfl, Nat.le_of_ble_eq_true rfl⟩) hP (hDa _) hS hA [16 + 3 * d_17, 17 + 3 * d_17, 18 + 3 * d_17] (zX_DC hd_17) (fun _ => rfl) (fun r_32 u_33 H locs w_34 hP _ hS => ?_)
              have hP : va_P (dC, dI) vwCl (zX k q z) H := (zX_Dkeep hd_17) ▸ hP
              refine lv_if_ne (tgt := 47) hx hb dX6_exposed_38 (by decide) (fun c_35 => ?_) (fun c_35 => ?_)
              · skip
                have hc_35 := zb_ne rfl (show (0 : Int32).toInt = 0 by decide) c_35
                refine lv_aload_n hx hb dX6_exposed_47 rfl (lv_at hl 0 rfl) ?_
                refine va_get (D := (dC, dI)) (ci := 1) (v := .int (z.1 (10 + 6 * d_17 + 3))) (C := RX1) (T := TX1) (N := 9) hx hb htb inw1 hown hK.1 hP (16 + 3 * d_17) (zX_D0 hd_17) rfl 6 (by decide) (htb _ wmt1_127) (fun _ h9 => h9) rfl dX6_exposed_48 ?_
                refine lv_topi (fun x_36 ex_36 => ?_)
                have hx_36 : x_36.toInt = (z.1 (10 + 6 * d_17 + 3)).toInt := by rw [ex_36]
                refine lv_aload_n hx hb dX6_exposed_51 rfl (lv_at hl 0 rfl) ?_
                refine va_get (D := (dC, dI)) (ci := 1) (v := .int (z.1 (10 + 6 * d_17 + 4))) (C := RX1) (T := TX1) (N := 9) hx hb htb inw1 hown hK.1 hP (16 + 3 * d_17) (zX_D0 hd_17) rfl 7 (by decide) (htb _ wmt1_129) (fun _ h9 => h9) rfl dX6_exposed_52 ?_
                refine lv_topi (fun x_37 ex_37 => ?_)
                have hx_37 : x_37.toInt = (z.1 (10 + 6 * d_17 + 4)).toInt := by rw [ex_37]
                refine va_mmax hx hb (hml.trans hl.1.symm) hown (htb _ wmt3_34) (htb _ wmt2_204) (htb _ wmt1_10) (htb _ wmt2_205) (Nat.le_of_ble_eq_true rfl) (Nat.le_of_ble_eq_true rfl) (Nat.le_of_ble_eq_true rfl) (Nat.le_of_ble_eq_true rfl) dX6_exposed_55 ?_
                refine lv_topi (fun x_38 ex_38 => ?_)
                refine lv_i2l (v := x_38.toInt64) hx hb dX6_exposed_58 rfl ?_
                refine lv_topl (fun x_39 ex_39 => ?_)
                have hx_39 : x_39.toInt = x_38.toInt := by rw [ex_39]; exact Jvm.Kit.i64_of_i32 _
                refine lv_lstore (lv' := [(4, .long x_39), (3, .ref (qD q d_17 0)), (0, .ref (q 0)), (1, .int d), (2, .int w)]) hx hb dX6_exposed_59 hl (by decide) rfl (fun ls hl => ?_)
                refine lv_aload_n hx hb dX6_exposed_61 rfl (lv_at hl 1 rfl) ?_
                refine va_get (D := (dC, dI)) (ci := 1) (v := .int (z.1 (10 + 6 * d_17 + 3))) (C := RX1) (T := TX1) (N := 9) hx hb htb inw1 hown hK.1 hP (16 + 3 * d_17) (zX_D0 hd_17) rfl 6 (by decide) (htb _ wmt1_127) (fun _ h9 => h9) rfl dX6_exposed_62 ?_
                refine z_top (v2 := .int x_36) (congrArg Value.int ex_36.symm) ?_
                refine lv_aload_n hx hb dX6_exposed_65 rfl (lv_at hl 1 rfl) ?_
                refine va_get (D := (dC, dI)) (ci := 1) (v := .int (z.1 (10 + 6 * d_17 + 4))) (C := RX1) (T := TX1) (N := 9) hx hb htb inw1 hown hK.1 hP (16 + 3 * d_17) (zX_D0 hd_17) rfl 7 (by decide) (htb _ wmt1_129) (fun _ h9 => h9) rfl dX6_exposed_66 ?_
                refine z_top (v2 := .int x_37) (congrArg Value.int ex_37.symm) ?_
                refine va_mmin hx hb (hml.trans hl.1.symm) hown (htb _ wmt3_35) (htb _ wmt3_36) (htb _ wmt1_10) (htb _ wmt3_37) (Nat.le_of_ble_eq_true rfl) (Nat.le_of_ble_eq_true rfl) (Nat.le_of_ble_eq_true rfl) (Nat.le_of_ble_eq_true rfl) dX6_exposed_69 ?_
                refine lv_topi (fun x_40 ex_40 => ?_)
                refine lv_i2l (v := x_40.toInt64) hx hb dX6_exposed_72 rfl ?_
                refine lv_topl (fun x_41 ex_41 => ?_)
                have hx_41 : x_41.toInt = x_40.toInt := by rw [ex_41]; exact Jvm.Kit.i64_of_i32 _
                refine lv_lstore (lv' := [(6, .long x_41), (4, .long x_39), (3, .ref (qD q d_17 0)), (0, .ref (q 0)), (1, .int d), (2, .int w)]) hx hb dX6_exposed_73 hl (by decide) rfl (fun ls hl => ?_)
                refine lv_aload_n hx hb dX6_exposed_75 rfl (lv_at hl 2 rfl) ?_
                refine va_get (D := (dC, dI)) (ci := 1) (v := .int (z.1 (10 + 6 * d_17 + 5))) (C := RX1) (T := TX1) (N := 9) hx hb htb inw1 hown hK.1 hP (16 + 3 * d_17) (zX_D0 hd_17) rfl 8 (by decide) (htb _ wmt1_132) (fun _ h9 => h9) rfl dX6_exposed_76 ?_
                refine lv_topi (fun x_42 ex_42 => ?_)
                have hx_42 : x_42.toInt = (z.1 (10 + 6 * d_17 + 5)).toInt := by rw [ex_42]
                refine lv_i2l (v := x_42.toInt64) hx hb dX6_exposed_79 rfl ?_
                refine lv_topl (fun x_43 ex_43 => ?_)
                have hx_43 : x_43.toInt = x_42.toInt := by rw [ex_43]; exact Jvm.Kit.i64_of_i32 _
                refine lv_lload hx hb dX6_exposed_80 (lv_at hl 0 rfl) ?_
                refine lv_lsub hx hb dX6_exposed_82 ?_
                refine lv_topl (fun x_44 ex_44 => ?_)
                refine lv_lstore (lv' := [(8, .long x_44), (6, .long x_41), (4, .long x_39), (3, .ref (qD q d_17 0)), (0, .ref (q 0)), (1, .int d), (2, .int w)]) hx hb dX6_exposed_83 hl (by decide) rfl (fun ls hl => ?_)
                refine lv_aload_n hx hb dX6_exposed_85 rfl (lv_at hl 3 rfl) ?_
                refine va_get (D := (dC, dI)) (ci := 1) (v := .int (z.1 (10 + 6 * d_17 + 5))) (C := RX1) (T := TX1) (N := 9) hx hb htb inw1 hown hK.1 hP (16 + 3 * d_17) (zX_D0 hd_17) rfl 8 (by decide) (htb _ wmt1_132) (fun _ h9 => h9) rfl dX6_exposed_86 ?_
                refine z_top (v2 := .int x_42) (congrArg Value.int ex_42.symm) ?_
                refine lv_i2l (v := x_42.toInt64) hx hb dX6_exposed_89 rfl ?_
                refine lv_topl (fun x_45 ex_45 => ?_)
                have hx_45 : x_45.toInt = x_42.toInt := by rw [ex_45]; exact Jvm.Kit.i64_of_i32 _
                refine lv_lload hx hb dX6_exposed_90 (lv_at hl 2 rfl) ?_
                refine lv_lsub hx hb dX6_exposed_92 ?_
                refine lv_topl (fun x_46 ex_46 => ?_)
                refine lv_lstore (lv' := [(10, .long x_46), (8, .long x_44), (6, .long x_41), (4, .long x_39), (3, .ref (qD q d_17 0)), (0, .ref (q 0)), (1, .int d), (2, .int w)]) hx hb dX6_exposed_93 hl (by decide) rfl (fun ls hl => ?_)
                refine lv_lload hx hb dX6_exposed_95 (lv_at hl 3 rfl) ?_
                refine lv_lload hx hb dX6_exposed_97 (lv_at hl 0 rfl) ?_
                refine lv_lmul hx hb dX6_exposed_99 ?_
                refine lv_topl (fun x_47 ex_47 => ?_)
                refine lv_lload hx hb dX6_exposed_100 (lv_at hl 1 rfl) ?_
                refine lv_lload hx hb dX6_exposed_102 (lv_at hl 2 rfl) ?_
                refine lv_lmul hx hb dX6_exposed_104 ?_
                refine lv_topl (fun x_48 ex_48 => ?_)
                refine z_lcmp hx hb dX6_exposed_105 ?_
                refine lv_if_lt (tgt := 123) hx hb dX6_exposed_106 (by decide) (fun c_49 => ?_) (fun c_49 => ?_)
                · skip
                  have hc_49 := zl_lt rfl rfl c_49
                  refine lv_aload_n hx hb dX6_exposed_123 rfl (lv_at hl 5 rfl) ?_
                  refine va_get (D := (dC, dI)) (ci := 6) (v := .ref (q 15)) (C := RX6) (T := TX6) (N := 12) hx hb htb inw6 hown hK.1 hP 0 rfl rfl 6 (by decide) (htb _ wmt1_176) (fun _ h9 => h9) rfl dX6_exposed_124 ?_
                  refine lv_lload hx hb dX6_exposed_127 (lv_at hl 1 rfl) ?_
                  refine lv_lload hx hb dX6_exposed_129 (lv_at hl 0 rfl) ?_
                  refine zcS_v (w := (zX k q z)) (wc := (zF k (qof q 15) (xF z))) (va_runV (As := [.long x_44, .long x_46]) (rest := []) ⟨hx, hb, hml, hown, htb⟩ (c_X2_become l dC dI k (qof q 15) (xF z) x_44 x_46 _ ) (cwV 2 htb (gzV wmt2_56 wmt2_57 wmt2_58 wmt1_5 wmt2_59) rfl rfl rfl (by decide +kernel) ⟨Nat.le_of_ble_eq_true rfl, Nat.le_of_ble_eq_true rfl⟩) (zp_V (ci := 2) (q0 := 15) hK hP (hDa _) [15] rfl (by decide) rfl rfl) rfl rfl hl.1 rfl (lv_room (Nat.le_of_ble_eq_true rfl)) dX6_exposed_131 ⟨Nat.le_of_ble_eq_true rfl, Nat.le_of_ble_eq_true rfl⟩) hP (hDa _) hS hA [15] rfl (fun _ => rfl) (fun u_51 H locs w_52 hP _ hS => ?_)
                  have hP : va_P (dC, dI) vwCl (zX k q (sJ (sJ z 0 (u_51.2.1 0)) 1 (u_51.2.1 1))) H := hP
                  refine lv_aload_n hx hb dX6_exposed_134 rfl (lv_at hl 5 rfl) ?_
                  refine va_get (D := (dC, dI)) (ci := 6) (v := .ref (q 15)) (C := RX6) (T := TX6) (N := 12) hx hb htb inw6 hown hK.1 hP 0 rfl rfl 6 (by decide) (htb _ wmt1_176) (fun _ h9 => h9) rfl dX6_exposed_135 ?_
                  refine lv_iload_n hx hb dX6_exposed_138 rfl (lv_at hl 7 rfl) ?_
                  refine zcS_l (w := (zX k q (sJ (sJ z 0 (u_51.2.1 0)) 1 (u_51.2.1 1)))) (wc := (zF k (qof q 15) (xF (sJ (sJ z 0 (u_51.2.1 0)) 1 (u_51.2.1 1))))) (va_runV (As := [.int w]) (rest := []) ⟨hx, hb, hml, hown, htb⟩ (c_X2_told l dC dI k (qof q 15) (xF (sJ (sJ z 0 (u_51.2.1 0)) 1 (u_51.2.1 1))) w _ ) (cwV 1 htb (gzV wmt2_61 wmt2_62 wmt2_63 wmt1_5 wmt2_64) rfl rfl rfl (by decide +kernel) ⟨Nat.le_of_ble_eq_true rfl, Nat.le_of_ble_eq_true rfl⟩) (zp_V (ci := 2) (q0 := 15) hK hP (hDa _) [15] rfl (by decide) rfl rfl) rfl rfl hl.1 rfl (lv_room (Nat.le_of_ble_eq_true rfl)) dX6_exposed_139 ⟨Nat.le_of_ble_eq_true rfl, Nat.le_of_ble_eq_true rfl⟩) hP (hDa _) hS hA [15] rfl (fun _ => rfl) (fun r_53 u_54 H locs w_55 hP _ hS => ?_)
                  have hP : va_P (dC, dI) vwCl (zX k q (sJ (sJ z 0 (u_51.2.1 0)) 1 (u_51.2.1 1))) H := hP
                  have h_56 := w_55
                  replace h_56 : (w.toInt = 0 → r_53 = (xF (sJ (sJ z 0 (u_51.2.1 0)) 1 (u_51.2.1 1))).2.1 0) ∧ (¬ w.toInt = 0 → r_53 = (xF (sJ (sJ z 0 (u_51.2.1 0)) 1 (u_51.2.1 1))).2.1 1) := h_56
                  exact W.lret (v := r_53) hx hb hr (fun t ht hW => ⟨⟨r_53, (sJ (sJ z 0 (u_51.2.1 0)) 1 (u_51.2.1 1)), rfl, ⟨hI, hT⟩, ⟨by rw [ht]; exact hP, hDa _⟩⟩, hS.F ht⟩) hS.2.2 dX6_exposed_142
                · skip
                  have hc_49 := zl_nlt rfl rfl c_49
                  refine lv_aload_n hx hb dX6_exposed_109 rfl (lv_at hl 5 rfl) ?_
                  refine va_get (D := (dC, dI)) (ci := 6) (v := .ref (q 15)) (C := RX6) (T := TX6) (N := 12) hx hb htb inw6 hown hK.1 hP 0 rfl rfl 6 (by decide) (htb _ wmt1_176) (fun _ h9 => h9) rfl dX6_exposed_110 ?_
                  refine lv_lload hx hb dX6_exposed_113 (lv_at hl 3 rfl) ?_
                  refine lv_lload hx hb dX6_exposed_115 (lv_at hl 2 rfl) ?_
                  refine zcS_v (w := (zX k q z)) (wc := (zF k (qof q 15) (xF z))) (va_runV (As := [.long x_39, .long x_41]) (rest := []) ⟨hx, hb, hml, hown, htb⟩ (c_X2_become l dC dI k (qof q 15) (xF z) x_39 x_41 _ ) (cwV 2 htb (gzV wmt2_56 wmt2_57 wmt2_58 wmt1_5 wmt2_59) rfl rfl rfl (by decide +kernel) ⟨Nat.le_of_ble_eq_true rfl, Nat.le_of_ble_eq_true rfl⟩) (zp_V (ci := 2) (q0 := 15) hK hP (hDa _) [15] rfl (by decide) rfl rfl) rfl rfl hl.1 rfl (lv_room (Nat.le_of_ble_eq_true rfl)) dX6_exposed_117 ⟨Nat.le_of_ble_eq_true rfl, Nat.le_of_ble_eq_true rfl⟩) hP (hDa _) hS hA [15] rfl (fun _ => rfl) (fun u_59 H locs w_60 hP _ hS => ?_)
                  have hP : va_P (dC, dI) vwCl (zX k q (sJ (sJ z 0 (u_59.2.1 0)) 1 (u_59.2.1 1))) H := hP
                  refine lv_goto (tgt := 134) hx hb dX6_exposed_120 (by decide) ?_
                  refine lv_aload_n hx hb dX6_exposed_134 rfl (lv_at hl 5 rfl) ?_
                  refine va_get (D := (dC, dI)) (ci := 6) (v := .ref (q 15)) (C := RX6) (T := TX6) (N := 12) hx hb htb inw6 hown hK.1 hP 0 rfl rfl 6 (by decide) (htb _ wmt1_176) (fun _ h9 => h9) rfl dX6_exposed_135 ?_
                  refine lv_iload_n hx hb dX6_exposed_138 rfl (lv_at hl 7 rfl) ?_
                  refine zcS_l (w := (zX k q (sJ (sJ z 0 (u_59.2.1 0)) 1 (u_59.2.1 1)))) (wc := (zF k (qof q 15) (xF (sJ (sJ z 0 (u_59.2.1 0)) 1 (u_59.2.1 1))))) (va_runV (As := [.int w]) (rest := []) ⟨hx, hb, hml, hown, htb⟩ (c_X2_told l dC dI k (qof q 15) (xF (sJ (sJ z 0 (u_59.2.1 0)) 1 (u_59.2.1 1))) w _ ) (cwV 1 htb (gzV wmt2_61 wmt2_62 wmt2_63 wmt1_5 wmt2_64) rfl rfl rfl (by decide +kernel) ⟨Nat.le_of_ble_eq_true rfl, Nat.le_of_ble_eq_true rfl⟩) (zp_V (ci := 2) (q0 := 15) hK hP (hDa _) [15] rfl (by decide) rfl rfl) rfl rfl hl.1 rfl (lv_room (Nat.le_of_ble_eq_true rfl)) dX6_exposed_139 ⟨Nat.le_of_ble_eq_true rfl, Nat.le_of_ble_eq_true rfl⟩) hP (hDa _) hS hA [15] rfl (fun _ => rfl) (fun r_61 u_62 H locs w_63 hP _ hS => ?_)
                  have hP : va_P (dC, dI) vwCl (zX k q (sJ (sJ z 0 (u_59.2.1 0)) 1 (u_59.2.1 1))) H := hP
                  have h_64 := w_63
                  replace h_64 : (w.toInt = 0 → r_61 = (xF (sJ (sJ z 0 (u_59.2.1 0)) 1 (u_59.2.1 1))).2.1 0) ∧ (¬ w.toInt = 0 → r_61 = (xF (sJ (sJ z 0 (u_59.2.1 0)) 1 (u_59.2.1 1))).2.1 1) := h_64
                  exact W.lret (v := r_61) hx hb hr (fun t ht hW => ⟨⟨r_61, (sJ (sJ z 0 (u_59.2.1 0)) 1 (u_59.2.1 1)), rfl, ⟨hI, hT⟩, ⟨by rw [ht]; exact hP, hDa _⟩⟩, hS.F ht⟩) hS.2.2 dX6_exposed_142
              · skip
                have hc_35 := zb_eq rfl (show (0 : Int32).toInt = 0 by decide) c_35
                refine lv_bipush (v := (-3)) hx hb dX6_exposed_41 (by decide) ?_
                refine zc0_l (w := (zX k q z)) (va_runS (As := [.int (-3)]) (rest := []) ⟨hx, hb, hml, hown, htb⟩ (c_X6_asLong l dC dI k (-3) _ ) (va_cwS 1 htb (gzS wmt2_51 wmt2_52 wmt1_1 wmt2_53) rfl rfl rfl (by decide +kernel) ⟨Nat.le_of_ble_eq_true rfl, Nat.le_of_ble_eq_true rfl⟩) (zp0_S hK) rfl rfl hl.1 rfl (lv_room (Nat.le_of_ble_eq_true rfl)) dX6_exposed_43 ⟨Nat.le_of_ble_eq_true rfl, Nat.le_of_ble_eq_true rfl⟩) hP hS hA (fun r_66 u_67 H locs w_68 hP hS => ?_)
                have h_69 := w_68
                replace h_69 : r_66.toInt = tl ((-3) : Int32) := h_69
                exact W.lret (v := r_66) hx hb hr (fun t ht hW => ⟨⟨r_66, z, rfl, ⟨hI, hT⟩, ⟨by rw [ht]; exact hP, hDa _⟩⟩, hS.F ht⟩) hS.2.2 dX6_exposed_46
        · skip
          exact absurd c_16 (by decide)
      · skip
        replace e_15 : r_9 = 0 := e_15
        subst e_15
        replace h_14 : ¬ (0 ≤ w.toInt ∧ w.toInt < 2) := h_14
        refine lv_if_ne (tgt := 20) hx hb dX6_exposed_11 (by decide) (fun c_71 => ?_) (fun c_71 => ?_)
        · skip
          exact absurd c_71 (by decide)
        · skip
          refine lv_bipush (v := (-2)) hx hb dX6_exposed_14 (by decide) ?_
          refine zc0_l (w := (zX k q z)) (va_runS (As := [.int (-2)]) (rest := []) ⟨hx, hb, hml, hown, htb⟩ (c_X6_asLong l dC dI k (-2) _ ) (va_cwS 1 htb (gzS wmt2_51 wmt2_52 wmt1_1 wmt2_53) rfl rfl rfl (by decide +kernel) ⟨Nat.le_of_ble_eq_true rfl, Nat.le_of_ble_eq_true rfl⟩) (zp0_S hK) rfl rfl hl.1 rfl (lv_room (Nat.le_of_ble_eq_true rfl)) dX6_exposed_16 ⟨Nat.le_of_ble_eq_true rfl, Nat.le_of_ble_eq_true rfl⟩) hP hS hA (fun r_72 u_73 H locs w_74 hP hS => ?_)
          have h_75 := w_74
          replace h_75 : r_72.toInt = tl ((-2) : Int32) := h_75
          exact W.lret (v := r_72) hx hb hr (fun t ht hW => ⟨⟨r_72, z, rfl, ⟨hI, hT⟩, ⟨by rw [ht]; exact hP, hDa _⟩⟩, hS.F ht⟩) hS.2.2 dX6_exposed_19
  · skip
    replace e_7 : r_1 = 0 := e_7
    subst e_7
    replace h_6 : ¬ (0 ≤ d.toInt ∧ d.toInt < 4) := h_6
    refine lv_if_eq (tgt := 14) hx hb dX6_exposed_4 (by decide) (fun c_77 => ?_) (fun c_77 => ?_)
    · skip
      refine lv_bipush (v := (-2)) hx hb dX6_exposed_14 (by decide) ?_
      refine zc0_l (w := (zX k q z)) (va_runS (As := [.int (-2)]) (rest := []) ⟨hx, hb, hml, hown, htb⟩ (c_X6_asLong l dC dI k (-2) _ ) (va_cwS 1 htb (gzS wmt2_51 wmt2_52 wmt1_1 wmt2_53) rfl rfl rfl (by decide +kernel) ⟨Nat.le_of_ble_eq_true rfl, Nat.le_of_ble_eq_true rfl⟩) (zp0_S hK) rfl rfl hl.1 rfl (lv_room (Nat.le_of_ble_eq_true rfl)) dX6_exposed_16 ⟨Nat.le_of_ble_eq_true rfl, Nat.le_of_ble_eq_true rfl⟩) hP hS hA (fun r_78 u_79 H locs w_80 hP hS => ?_)
      have h_81 := w_80
      replace h_81 : r_78.toInt = tl ((-2) : Int32) := h_81
      exact W.lret (v := r_78) hx hb hr (fun t ht hW => ⟨⟨r_78, z, rfl, ⟨hI, hT⟩, ⟨by rw [ht]; exact hP, hDa _⟩⟩, hS.F ht⟩) hS.2.2 dX6_exposed_19
    · skip
      exact absurd (by decide) c_77
set_option maxHeartbeats 4000000 in
set_option maxRecDepth 100000 in
theorem c_X6_saysYes_v (l : Launch) (dC : Nat → ClassId) (dI : Nat → Nat → Nat) (k : Nat → ClassId) (q : Nat → Nat) (z : ZS) (d : Int32) (w : Int32) (n : Int32) (sz : Nat) (hI : XInv z) (hLB : LB (trX z)) : Met l yX6_saysYes (wz yX6_saysYes cX6_saysYes 5 (some .long)) ({ frames := 3, cells := 0, slots := 0, locals := 69 }) (va_Pc [.ref (q 0), .int d, .int w, .int n] (zPre dC dI k (zTX k) (zX k q z) sz)) (va_Ql (fun (r : Int64) (u : ZS) => (XInv u) ∧ (trX u = trX z) ∧ (r.toInt = tSays (trX z) d w n)) (fun u t => zPost dC dI (va_A (zX k q z) sz) (zX k q u) t) (va_A (zX k q z) sz)) 0 0 (va_A (zX k q z) sz) := by
  refine Met.ofW (cc := cX6_saysYes) (maxL := 5) (ret := (some .long)) (by decide) rfl ?_
  intro p e s m args below meth c s₁ B hml hv
  obtain ⟨rfl, hsz, hP, hK, hD0⟩ := hv
  have hx := B.exec
  have hb := B.bytes
  have hr := B.returns
  have hts := atoms_spec (ws := wz yX6_saysYes cX6_saysYes 5 (some .long)) B.pre
  have htb : ∀ w ∈ zw, w.before _ s = true := fun w h => hts w (List.mem_cons_of_mem _ h)
  have hown : s.vm.findClass RX6 = some m.cls := findClass_of_methodNamed B.named
  have hlocks := B.notSynchronized
  clear hts
  subst hsz
  have hD := hD0.self (sz := s.heap.size)
  generalize hAe : va_A (zX k q z) s.heap.size = A at hD ⊢
  have hA : ∀ q : Nat, s.heap.size ≤ q → A q := fun q h => by rw [← hAe]; exact Or.inr h
  have hDa : ∀ z9 : ZS, va_D A (zX k q z9) := fun z9 => va_D_adr (w := zX k q z) rfl hD
  have hl := lv_entry ([.ref (q 0), .int d, .int w, .int n]) (n := 5) (Nat.le_of_ble_eq_true rfl)
  rw [lg_entry_eq]
  generalize (lg_sl ([.ref (q 0), .int d, .int w, .int n]) ++ List.replicate (5 - (lg_sl ([.ref (q 0), .int d, .int w, .int n])).length) Slot.unset).toArray = ls at hl ⊢
  have hl : lv_has ls 5 [(0, .ref (q 0)), (1, .int d), (2, .int w), (3, .int n)] := hl
  refine z_start2 (A := A) (w := (zX k q z)) hP (fun H locs hP hS => ?_)
  clear hD0 hAe
  have hT : trX z = trX z := rfl
  refine lv_iload_n hx hb dX6_saysYes_0 rfl (lv_at hl 1 rfl) ?_
  refine zc0_i (w := (zX k q z)) (va_runS (As := [.int d]) (rest := []) ⟨hx, hb, hml, hown, htb⟩ (c_X6_isDesign l dC dI k d _ ) (va_cwS 1 htb (gzS wmt1_211 wmt1_212 wmt1_1 wmt1_213) rfl rfl rfl (by decide +kernel) ⟨Nat.le_of_ble_eq_true rfl, Nat.le_of_ble_eq_true rfl⟩) (zp0_S hK) rfl rfl hl.1 rfl (lv_room (Nat.le_of_ble_eq_true rfl)) dX6_saysYes_1 ⟨Nat.le_of_ble_eq_true rfl, Nat.le_of_ble_eq_true rfl⟩) hP hS hA (fun r_1 u_2 H locs w_3 hP hS => ?_)
  rcases w_3 with ⟨e_5, h_4⟩ | ⟨e_7, h_6⟩
  · skip
    replace e_5 : r_1 = 1 := e_5
    subst e_5
    replace h_4 : 0 ≤ d.toInt ∧ d.toInt < 4 := h_4
    refine lv_if_eq (tgt := 21) hx hb dX6_saysYes_4 (by decide) (fun c_8 => ?_) (fun c_8 => ?_)
    · skip
      exact absurd c_8 (by decide)
    · skip
      refine lv_iload_n hx hb dX6_saysYes_7 rfl (lv_at hl 2 rfl) ?_
      refine zc0_i (w := (zX k q z)) (va_runS (As := [.int w]) (rest := []) ⟨hx, hb, hml, hown, htb⟩ (c_X6_isEither l dC dI k w _ ) (va_cwS 1 htb (gzS wmt2_48 wmt2_49 wmt1_1 wmt2_50) rfl rfl rfl (by decide +kernel) ⟨Nat.le_of_ble_eq_true rfl, Nat.le_of_ble_eq_true rfl⟩) (zp0_S hK) rfl rfl hl.1 rfl (lv_room (Nat.le_of_ble_eq_true rfl)) dX6_saysYes_8 ⟨Nat.le_of_ble_eq_true rfl, Nat.le_of_ble_eq_true rfl⟩) hP hS hA (fun r_9 u_10 H locs w_11 hP hS => ?_)
      rcases w_11 with ⟨e_13, h_12⟩ | ⟨e_15, h_14⟩
      · skip
        replace e_13 : r_9 = 1 := e_13
        subst e_13
        replace h_12 : 0 ≤ w.toInt ∧ w.toInt < 2 := h_12
        refine lv_if_eq (tgt := 21) hx hb dX6_saysYes_11 (by decide) (fun c_16 => ?_) (fun c_16 => ?_)
        · skip
          exact absurd c_16 (by decide)
        · skip
          refine lv_iload_n hx hb dX6_saysYes_14 rfl (lv_at hl 3 rfl) ?_
          refine zc0_i (w := (zX k q z)) (va_runS (As := [.int n]) (rest := []) ⟨hx, hb, hml, hown, htb⟩ (c_X6_isEither l dC dI k n _ ) (va_cwS 1 htb (gzS wmt2_48 wmt2_49 wmt1_1 wmt2_50) rfl rfl rfl (by decide +kernel) ⟨Nat.le_of_ble_eq_true rfl, Nat.le_of_ble_eq_true rfl⟩) (zp0_S hK) rfl rfl hl.1 rfl (lv_room (Nat.le_of_ble_eq_true rfl)) dX6_saysYes_15 ⟨Nat.le_of_ble_eq_true rfl, Nat.le_of_ble_eq_true rfl⟩) hP hS hA (fun r_17 u_18 H locs w_19 hP hS => ?_)
          rcases w_19 with ⟨e_21, h_20⟩ | ⟨e_23, h_22⟩
          · skip
            replace e_21 : r_17 = 1 := e_21
            subst e_21
            replace h_20 : 0 ≤ n.toInt ∧ n.toInt < 2 := h_20
            refine lv_if_ne (tgt := 27) hx hb dX6_saysYes_18 (by decide) (fun c_24 => ?_) (fun c_24 => ?_)
            · skip
              refine lv_aload_n hx hb dX6_saysYes_27 rfl (lv_at hl 0 rfl) ?_
              refine va_get (D := (dC, dI)) (ci := 6) (v := .ref (q 1)) (C := RX6) (T := TX6) (N := 12) hx hb htb inw6 hown hK.1 hP 0 rfl rfl 0 (by decide) (htb _ wmt1_170) (fun _ h9 => h9) rfl dX6_saysYes_28 ?_
              refine lv_iload_n hx hb dX6_saysYes_31 rfl (lv_at hl 1 rfl) ?_
              refine va_aldq (D := (dC, dI)) hx hb hK.1 hP 1 3 rfl rfl (z_in (by omega)) dX6_saysYes_32 ?_
              obtain ⟨d_25, ed_25⟩ : ∃ x : Nat, x = d.toNatClampNeg := ⟨_, rfl⟩
              have hd_25 : d_25 < 4 := by rw [ed_25]; exact z_cl4 (by omega)
              refine z_top (v2 := .ref (qD q d_25 0)) (zgD_at2 ed_25 hd_25) ?_
              refine lv_astore (lv' := [(4, .ref (qD q d_25 0)), (0, .ref (q 0)), (1, .int d), (2, .int w), (3, .int n)]) hx hb dX6_saysYes_33 hl (by decide) rfl (fun ls hl => ?_)
              refine lv_aload hx hb dX6_saysYes_35 (lv_at hl 0 rfl) ?_
              refine zcS_i (w := (zX k q z)) (wc := (zD k (qD q d_25) (xD z d_25))) (va_runV (As := []) (rest := []) ⟨hx, hb, hml, hown, htb⟩ (c_X1_isFaulty l dC dI k (qD q d_25) (xD z d_25) _ ) (cwV 0 htb (gzV wmt2_55 wmt2_20 wmt2_21 wmt1_6 wmt2_22) rfl rfl rfl (by decide +kernel) ⟨Nat.le_of_ble_eq_true rfl, Nat.le_of_ble_eq_true rfl⟩) (zp_V (ci := 1) (q0 := (16 + 3 * d_25)) hK hP (hDa _) [16 + 3 * d_25, 17 + 3 * d_25, 18 + 3 * d_25] (zX_DC hd_25) (zX_ndD hd_25) rfl (zX_D0 hd_25)) rfl rfl hl.1 rfl (lv_room (Nat.le_of_ble_eq_true rfl)) dX6_saysYes_37 ⟨Nat.le_of_ble_eq_true rfl, Nat.le_of_ble_eq_true rfl⟩) hP (hDa _) hS hA [16 + 3 * d_25, 17 + 3 * d_25, 18 + 3 * d_25] (zX_DC hd_25) (fun _ => rfl) (fun r_26 u_27 H locs w_28 hP _ hS => ?_)
              have hP : va_P (dC, dI) vwCl (zX k q z) H := (zX_Dkeep hd_25) ▸ hP
              rcases w_28 with ⟨e_30, h_29⟩ | ⟨e_32, h_31⟩
              · skip
                replace e_30 : r_26 = 1 := e_30
                subst e_30
                replace h_29 : ¬ ((xD z d_25).1 2).toInt = -1 := h_29
                have hfa : ¬ (z.1 (10 + 6 * d_25 + 2)).toInt = -1 := h_29
                refine lv_if_eq (tgt := 49) hx hb dX6_saysYes_40 (by decide) (fun c_33 => ?_) (fun c_33 => ?_)
                · skip
                  exact absurd c_33 (by decide)
                · skip
                  refine lv_bipush (v := (-3)) hx hb dX6_saysYes_43 (by decide) ?_
                  refine zc0_l (w := (zX k q z)) (va_runS (As := [.int (-3)]) (rest := []) ⟨hx, hb, hml, hown, htb⟩ (c_X6_asLong l dC dI k (-3) _ ) (va_cwS 1 htb (gzS wmt2_51 wmt2_52 wmt1_1 wmt2_53) rfl rfl rfl (by decide +kernel) ⟨Nat.le_of_ble_eq_true rfl, Nat.le_of_ble_eq_true rfl⟩) (zp0_S hK) rfl rfl hl.1 rfl (lv_room (Nat.le_of_ble_eq_true rfl)) dX6_saysYes_45 ⟨Nat.le_of_ble_eq_true rfl, Nat.le_of_ble_eq_true rfl⟩) hP hS hA (fun r_34 u_35 H locs w_36 hP hS => ?_)
                  have h_37 := w_36
                  replace h_37 : r_34.toInt = tl ((-3) : Int32) := h_37
                  have hal := h_37
                  exact W.lret (v := r_34) hx hb hr (fun t ht hW => ⟨⟨r_34, z, rfl, ⟨hI, hT, hal.trans (tSays_ok (by omega) ed_25 (tSy_f (trX_Fg hd_25) hfa))⟩, ⟨by rw [ht]; exact hP, hDa _⟩⟩, hS.F ht⟩) hS.2.2 dX6_saysYes_48
              · skip
                replace e_32 : r_26 = 0 := e_32
                subst e_32
                replace h_31 : ((xD z d_25).1 2).toInt = -1 := h_31
                have hfa : (z.1 (10 + 6 * d_25 + 2)).toInt = -1 := h_31
                have hlx := tL_X (z := z) hd_25 hfa
                have hlb := hLB d_25 hd_25 (tF_X hd_25 hfa)
                rw [hlx.1, hlx.2.1, hlx.2.2] at hlb
                refine lv_if_eq (tgt := 49) hx hb dX6_saysYes_40 (by decide) (fun c_39 => ?_) (fun c_39 => ?_)
                · skip
                  refine lv_aload_n hx hb dX6_saysYes_49 rfl (lv_at hl 1 rfl) ?_
                  refine va_get (D := (dC, dI)) (ci := 6) (v := .ref (q 15)) (C := RX6) (T := TX6) (N := 12) hx hb htb inw6 hown hK.1 hP 0 rfl rfl 6 (by decide) (htb _ wmt1_176) (fun _ h9 => h9) rfl dX6_saysYes_50 ?_
                  refine lv_iload_n hx hb dX6_saysYes_53 rfl (lv_at hl 3 rfl) ?_
                  refine lv_iconst (v := 1) hx hb dX6_saysYes_54 (by decide) ?_
                  refine lv_icmp_ne (tgt := 67) hx hb dX6_saysYes_55 (by decide) (fun c_40 => ?_) (fun c_40 => ?_)
                  · skip
                    have hc_40 := zb_ne rfl (show (1 : Int32).toInt = 1 by decide) c_40
                    refine lv_aload hx hb dX6_saysYes_67 (lv_at hl 0 rfl) ?_
                    refine va_get (D := (dC, dI)) (ci := 1) (v := .int (z.1 (10 + 6 * d_25 + 4))) (C := RX1) (T := TX1) (N := 9) hx hb htb inw1 hown hK.1 hP (16 + 3 * d_25) (zX_D0 hd_25) rfl 7 (by decide) (htb _ wmt1_129) (fun _ h9 => h9) rfl dX6_saysYes_69 ?_
                    refine lv_topi (fun x_41 ex_41 => ?_)
                    have hx_41 : x_41.toInt = (z.1 (10 + 6 * d_25 + 4)).toInt := by rw [ex_41]
                    refine lv_i2l (v := x_41.toInt64) hx hb dX6_saysYes_72 rfl ?_
                    refine lv_topl (fun x_42 ex_42 => ?_)
                    have hx_42 : x_42.toInt = x_41.toInt := by rw [ex_42]; exact Jvm.Kit.i64_of_i32 _
                    refine lv_aload hx hb dX6_saysYes_73 (lv_at hl 0 rfl) ?_
                    refine va_get (D := (dC, dI)) (ci := 1) (v := .int (z.1 (10 + 6 * d_25 + 5))) (C := RX1) (T := TX1) (N := 9) hx hb htb inw1 hown hK.1 hP (16 + 3 * d_25) (zX_D0 hd_25) rfl 8 (by decide) (htb _ wmt1_132) (fun _ h9 => h9) rfl dX6_saysYes_75 ?_
                    refine lv_topi (fun x_43 ex_43 => ?_)
                    have hx_43 : x_43.toInt = (z.1 (10 + 6 * d_25 + 5)).toInt := by rw [ex_43]
                    refine lv_i2l (v := x_43.toInt64) hx hb dX6_saysYes_78 rfl ?_
                    refine lv_topl (fun x_44 ex_44 => ?_)
                    have hx_44 : x_44.toInt = x_43.toInt := by rw [ex_44]; exact Jvm.Kit.i64_of_i32 _
                    refine zcS_v (w := (zX k q z)) (wc := (zF k (qof q 15) (xF z))) (va_runV (As := [.long x_42, .long x_44]) (rest := []) ⟨hx, hb, hml, hown, htb⟩ (c_X2_become_v l dC dI k (qof q 15) (xF z) x_42 x_44 _ (show 0 ≤ x_42.toInt ∧ x_42.toInt < 4611686018427387904 by omega) (show 0 < x_44.toInt ∧ x_44.toInt < 4611686018427387904 by omega)) (cwV 2 htb (gzV wmt2_56 wmt2_57 wmt2_58 wmt1_5 wmt2_59) rfl rfl rfl (by decide +kernel) ⟨Nat.le_of_ble_eq_true rfl, Nat.le_of_ble_eq_true rfl⟩) (zp_V (ci := 2) (q0 := 15) hK hP (hDa _) [15] rfl (by decide) rfl rfl) rfl rfl hl.1 rfl (lv_room (Nat.le_of_ble_eq_true rfl)) dX6_saysYes_79 ⟨Nat.le_of_ble_eq_true rfl, Nat.le_of_ble_eq_true rfl⟩) hP (hDa _) hS hA [15] rfl (fun _ => rfl) (fun u_46 H locs w_47 hP _ hS => ?_)
                    have hP : va_P (dC, dI) vwCl (zX k q (sJ (sJ z 0 (u_46.2.1 0)) 1 (u_46.2.1 1))) H := hP
                    obtain ⟨h_48, h_49⟩ := w_47
                    replace h_48 : (u_46.2.1 0).toInt = frT x_42.toInt x_44.toInt 0 := h_48
                    replace h_49 : (u_46.2.1 1).toInt = frT x_42.toInt x_44.toInt 1 := h_49
                    have hb0 := h_48
                    have hb1 := h_49
                    refine lv_aload_n hx hb dX6_saysYes_82 rfl (lv_at hl 1 rfl) ?_
                    refine va_get (D := (dC, dI)) (ci := 6) (v := .ref (q 15)) (C := RX6) (T := TX6) (N := 12) hx hb htb inw6 hown hK.1 hP 0 rfl rfl 6 (by decide) (htb _ wmt1_176) (fun _ h9 => h9) rfl dX6_saysYes_83 ?_
                    refine lv_iload_n hx hb dX6_saysYes_86 rfl (lv_at hl 4 rfl) ?_
                    refine zcS_l (w := (zX k q (sJ (sJ z 0 (u_46.2.1 0)) 1 (u_46.2.1 1)))) (wc := (zF k (qof q 15) (xF (sJ (sJ z 0 (u_46.2.1 0)) 1 (u_46.2.1 1))))) (va_runV (As := [.int n]) (rest := []) ⟨hx, hb, hml, hown, htb⟩ (c_X2_told l dC dI k (qof q 15) (xF (sJ (sJ z 0 (u_46.2.1 0)) 1 (u_46.2.1 1))) n _ ) (cwV 1 htb (gzV wmt2_61 wmt2_62 wmt2_63 wmt1_5 wmt2_64) rfl rfl rfl (by decide +kernel) ⟨Nat.le_of_ble_eq_true rfl, Nat.le_of_ble_eq_true rfl⟩) (zp_V (ci := 2) (q0 := 15) hK hP (hDa _) [15] rfl (by decide) rfl rfl) rfl rfl hl.1 rfl (lv_room (Nat.le_of_ble_eq_true rfl)) dX6_saysYes_87 ⟨Nat.le_of_ble_eq_true rfl, Nat.le_of_ble_eq_true rfl⟩) hP (hDa _) hS hA [15] rfl (fun _ => rfl) (fun r_51 u_52 H locs w_53 hP _ hS => ?_)
                    have hP : va_P (dC, dI) vwCl (zX k q (sJ (sJ z 0 (u_46.2.1 0)) 1 (u_46.2.1 1))) H := hP
                    have h_54 := w_53
                    replace h_54 : (n.toInt = 0 → r_51 = (xF (sJ (sJ z 0 (u_46.2.1 0)) 1 (u_46.2.1 1))).2.1 0) ∧ (¬ n.toInt = 0 → r_51 = (xF (sJ (sJ z 0 (u_46.2.1 0)) 1 (u_46.2.1 1))).2.1 1) := h_54
                    have htd := h_54
                    exact W.lret (v := r_51) hx hb hr (fun t ht hW => ⟨⟨r_51, (sJ (sJ z 0 (u_46.2.1 0)) 1 (u_46.2.1 1)), rfl, ⟨hI, hT, (fr_told hb0 hb1 htd).trans (tSays_ok (by omega) ed_25 (tSy_ok (trX_Fg hd_25) hfa (by rw [if_neg (by omega)]; exact hlx.2.2.trans (by omega)) (hlx.1.trans (by omega))))⟩, ⟨by rw [ht]; exact hP, hDa _⟩⟩, hS.F ht⟩) hS.2.2 dX6_saysYes_90
                  · skip
                    have hc_40 := zb_eq rfl (show (1 : Int32).toInt = 1 by decide) c_40
                    refine lv_aload hx hb dX6_saysYes_58 (lv_at hl 0 rfl) ?_
                    refine va_get (D := (dC, dI)) (ci := 1) (v := .int (z.1 (10 + 6 * d_25 + 3))) (C := RX1) (T := TX1) (N := 9) hx hb htb inw1 hown hK.1 hP (16 + 3 * d_25) (zX_D0 hd_25) rfl 6 (by decide) (htb _ wmt1_127) (fun _ h9 => h9) rfl dX6_saysYes_60 ?_
                    refine lv_topi (fun x_56 ex_56 => ?_)
                    have hx_56 : x_56.toInt = (z.1 (10 + 6 * d_25 + 3)).toInt := by rw [ex_56]
                    refine lv_i2l (v := x_56.toInt64) hx hb dX6_saysYes_63 rfl ?_
                    refine lv_topl (fun x_57 ex_57 => ?_)
                    have hx_57 : x_57.toInt = x_56.toInt := by rw [ex_57]; exact Jvm.Kit.i64_of_i32 _
                    refine lv_goto (tgt := 73) hx hb dX6_saysYes_64 (by decide) ?_
                    refine lv_aload hx hb dX6_saysYes_73 (lv_at hl 0 rfl) ?_
                    refine va_get (D := (dC, dI)) (ci := 1) (v := .int (z.1 (10 + 6 * d_25 + 5))) (C := RX1) (T := TX1) (N := 9) hx hb htb inw1 hown hK.1 hP (16 + 3 * d_25) (zX_D0 hd_25) rfl 8 (by decide) (htb _ wmt1_132) (fun _ h9 => h9) rfl dX6_saysYes_75 ?_
                    refine lv_topi (fun x_58 ex_58 => ?_)
                    have hx_58 : x_58.toInt = (z.1 (10 + 6 * d_25 + 5)).toInt := by rw [ex_58]
                    refine lv_i2l (v := x_58.toInt64) hx hb dX6_saysYes_78 rfl ?_
                    refine lv_topl (fun x_59 ex_59 => ?_)
                    have hx_59 : x_59.toInt = x_58.toInt := by rw [ex_59]; exact Jvm.Kit.i64_of_i32 _
                    refine zcS_v (w := (zX k q z)) (wc := (zF k (qof q 15) (xF z))) (va_runV (As := [.long x_57, .long x_59]) (rest := []) ⟨hx, hb, hml, hown, htb⟩ (c_X2_become_v l dC dI k (qof q 15) (xF z) x_57 x_59 _ (show 0 ≤ x_57.toInt ∧ x_57.toInt < 4611686018427387904 by omega) (show 0 < x_59.toInt ∧ x_59.toInt < 4611686018427387904 by omega)) (cwV 2 htb (gzV wmt2_56 wmt2_57 wmt2_58 wmt1_5 wmt2_59) rfl rfl rfl (by decide +kernel) ⟨Nat.le_of_ble_eq_true rfl, Nat.le_of_ble_eq_true rfl⟩) (zp_V (ci := 2) (q0 := 15) hK hP (hDa _) [15] rfl (by decide) rfl rfl) rfl rfl hl.1 rfl (lv_room (Nat.le_of_ble_eq_true rfl)) dX6_saysYes_79 ⟨Nat.le_of_ble_eq_true rfl, Nat.le_of_ble_eq_true rfl⟩) hP (hDa _) hS hA [15] rfl (fun _ => rfl) (fun u_61 H locs w_62 hP _ hS => ?_)
                    have hP : va_P (dC, dI) vwCl (zX k q (sJ (sJ z 0 (u_61.2.1 0)) 1 (u_61.2.1 1))) H := hP
                    obtain ⟨h_63, h_64⟩ := w_62
                    replace h_63 : (u_61.2.1 0).toInt = frT x_57.toInt x_59.toInt 0 := h_63
                    replace h_64 : (u_61.2.1 1).toInt = frT x_57.toInt x_59.toInt 1 := h_64
                    have hb0 := h_63
                    have hb1 := h_64
                    refine lv_aload_n hx hb dX6_saysYes_82 rfl (lv_at hl 1 rfl) ?_
                    refine va_get (D := (dC, dI)) (ci := 6) (v := .ref (q 15)) (C := RX6) (T := TX6) (N := 12) hx hb htb inw6 hown hK.1 hP 0 rfl rfl 6 (by decide) (htb _ wmt1_176) (fun _ h9 => h9) rfl dX6_saysYes_83 ?_
                    refine lv_iload_n hx hb dX6_saysYes_86 rfl (lv_at hl 4 rfl) ?_
                    refine zcS_l (w := (zX k q (sJ (sJ z 0 (u_61.2.1 0)) 1 (u_61.2.1 1)))) (wc := (zF k (qof q 15) (xF (sJ (sJ z 0 (u_61.2.1 0)) 1 (u_61.2.1 1))))) (va_runV (As := [.int n]) (rest := []) ⟨hx, hb, hml, hown, htb⟩ (c_X2_told l dC dI k (qof q 15) (xF (sJ (sJ z 0 (u_61.2.1 0)) 1 (u_61.2.1 1))) n _ ) (cwV 1 htb (gzV wmt2_61 wmt2_62 wmt2_63 wmt1_5 wmt2_64) rfl rfl rfl (by decide +kernel) ⟨Nat.le_of_ble_eq_true rfl, Nat.le_of_ble_eq_true rfl⟩) (zp_V (ci := 2) (q0 := 15) hK hP (hDa _) [15] rfl (by decide) rfl rfl) rfl rfl hl.1 rfl (lv_room (Nat.le_of_ble_eq_true rfl)) dX6_saysYes_87 ⟨Nat.le_of_ble_eq_true rfl, Nat.le_of_ble_eq_true rfl⟩) hP (hDa _) hS hA [15] rfl (fun _ => rfl) (fun r_66 u_67 H locs w_68 hP _ hS => ?_)
                    have hP : va_P (dC, dI) vwCl (zX k q (sJ (sJ z 0 (u_61.2.1 0)) 1 (u_61.2.1 1))) H := hP
                    have h_69 := w_68
                    replace h_69 : (n.toInt = 0 → r_66 = (xF (sJ (sJ z 0 (u_61.2.1 0)) 1 (u_61.2.1 1))).2.1 0) ∧ (¬ n.toInt = 0 → r_66 = (xF (sJ (sJ z 0 (u_61.2.1 0)) 1 (u_61.2.1 1))).2.1 1) := h_69
                    have htd := h_69
                    exact W.lret (v := r_66) hx hb hr (fun t ht hW => ⟨⟨r_66, (sJ (sJ z 0 (u_61.2.1 0)) 1 (u_61.2.1 1)), rfl, ⟨hI, hT, (fr_told hb0 hb1 htd).trans (tSays_ok (by omega) ed_25 (tSy_ok (trX_Fg hd_25) hfa (by rw [if_pos (by omega)]; exact hlx.2.1.trans (by omega)) (hlx.1.trans (by omega))))⟩, ⟨by rw [ht]; exact hP, hDa _⟩⟩, hS.F ht⟩) hS.2.2 dX6_saysYes_90
                · skip
                  exact absurd (by decide) c_39
            · skip
              exact absurd c_24 (by decide)
          · skip
            replace e_23 : r_17 = 0 := e_23
            subst e_23
            replace h_22 : ¬ (0 ≤ n.toInt ∧ n.toInt < 2) := h_22
            refine lv_if_ne (tgt := 27) hx hb dX6_saysYes_18 (by decide) (fun c_71 => ?_) (fun c_71 => ?_)
            · skip
              exact absurd c_71 (by decide)
            · skip
              refine lv_bipush (v := (-2)) hx hb dX6_saysYes_21 (by decide) ?_
              refine zc0_l (w := (zX k q z)) (va_runS (As := [.int (-2)]) (rest := []) ⟨hx, hb, hml, hown, htb⟩ (c_X6_asLong l dC dI k (-2) _ ) (va_cwS 1 htb (gzS wmt2_51 wmt2_52 wmt1_1 wmt2_53) rfl rfl rfl (by decide +kernel) ⟨Nat.le_of_ble_eq_true rfl, Nat.le_of_ble_eq_true rfl⟩) (zp0_S hK) rfl rfl hl.1 rfl (lv_room (Nat.le_of_ble_eq_true rfl)) dX6_saysYes_23 ⟨Nat.le_of_ble_eq_true rfl, Nat.le_of_ble_eq_true rfl⟩) hP hS hA (fun r_72 u_73 H locs w_74 hP hS => ?_)
              have h_75 := w_74
              replace h_75 : r_72.toInt = tl ((-2) : Int32) := h_75
              have hal := h_75
              exact W.lret (v := r_72) hx hb hr (fun t ht hW => ⟨⟨r_72, z, rfl, ⟨hI, hT, hal.trans (tSays_bad (by omega))⟩, ⟨by rw [ht]; exact hP, hDa _⟩⟩, hS.F ht⟩) hS.2.2 dX6_saysYes_26
      · skip
        replace e_15 : r_9 = 0 := e_15
        subst e_15
        replace h_14 : ¬ (0 ≤ w.toInt ∧ w.toInt < 2) := h_14
        refine lv_if_eq (tgt := 21) hx hb dX6_saysYes_11 (by decide) (fun c_77 => ?_) (fun c_77 => ?_)
        · skip
          refine lv_bipush (v := (-2)) hx hb dX6_saysYes_21 (by decide) ?_
          refine zc0_l (w := (zX k q z)) (va_runS (As := [.int (-2)]) (rest := []) ⟨hx, hb, hml, hown, htb⟩ (c_X6_asLong l dC dI k (-2) _ ) (va_cwS 1 htb (gzS wmt2_51 wmt2_52 wmt1_1 wmt2_53) rfl rfl rfl (by decide +kernel) ⟨Nat.le_of_ble_eq_true rfl, Nat.le_of_ble_eq_true rfl⟩) (zp0_S hK) rfl rfl hl.1 rfl (lv_room (Nat.le_of_ble_eq_true rfl)) dX6_saysYes_23 ⟨Nat.le_of_ble_eq_true rfl, Nat.le_of_ble_eq_true rfl⟩) hP hS hA (fun r_78 u_79 H locs w_80 hP hS => ?_)
          have h_81 := w_80
          replace h_81 : r_78.toInt = tl ((-2) : Int32) := h_81
          have hal := h_81
          exact W.lret (v := r_78) hx hb hr (fun t ht hW => ⟨⟨r_78, z, rfl, ⟨hI, hT, hal.trans (tSays_bad (by omega))⟩, ⟨by rw [ht]; exact hP, hDa _⟩⟩, hS.F ht⟩) hS.2.2 dX6_saysYes_26
        · skip
          exact absurd (by decide) c_77
  · skip
    replace e_7 : r_1 = 0 := e_7
    subst e_7
    replace h_6 : ¬ (0 ≤ d.toInt ∧ d.toInt < 4) := h_6
    refine lv_if_eq (tgt := 21) hx hb dX6_saysYes_4 (by decide) (fun c_83 => ?_) (fun c_83 => ?_)
    · skip
      refine lv_bipush (v := (-2)) hx hb dX6_saysYes_21 (by decide) ?_
      refine zc0_l (w := (zX k q z)) (va_runS (As := [.int (-2)]) (rest := []) ⟨hx, hb, hml, hown, htb⟩ (c_X6_asLong l dC dI k (-2) _ ) (va_cwS 1 htb (gzS wmt2_51 wmt2_52 wmt1_1 wmt2_53) rfl rfl rfl (by decide +kernel) ⟨Nat.le_of_ble_eq_true rfl, Nat.le_of_ble_eq_true rfl⟩) (zp0_S hK) rfl rfl hl.1 rfl (lv_room (Nat.le_of_ble_eq_true rfl)) dX6_saysYes_23 ⟨Nat.le_of_ble_eq_true rfl, Nat.le_of_ble_eq_true rfl⟩) hP hS hA (fun r_84 u_85 H locs w_86 hP hS => ?_)
      have h_87 := w_86
      replace h_87 : r_84.toInt = tl ((-2) : Int32) := h_87
      have hal := h_87
      exact W.lret (v := r_84) hx hb hr (fun t ht hW => ⟨⟨r_84, z, rfl, ⟨hI, hT, hal.trans (tSays_bad (by omega))⟩, ⟨by rw [ht]; exact hP, hDa _⟩⟩, hS.F ht⟩) hS.2.2 dX6_saysYes_26
    · skip
      exact absurd (by decide) c_83
set_option maxHeartbeats 4000000 in
set_option maxRecDepth 100000 in
theorem c_X6_away_v (l : Launch) (dC : Nat → ClassId) (dI : Nat → Nat → Nat) (k : Nat → ClassId) (q : Nat → Nat) (z : ZS) (d : Int32) (y : Int32) (w : Int32) (sz : Nat) (hI : XInv z) (hLB : LB (trX z)) : Met l yX6_away (wz yX6_away cX6_away 5 (some .long)) ({ frames := 3, cells := 0, slots := 0, locals := 69 }) (va_Pc [.ref (q 0), .int d, .int y, .int w] (zPre dC dI k (zTX k) (zX k q z) sz)) (va_Ql (fun (r : Int64) (u : ZS) => (XInv u) ∧ (trX u = trX z) ∧ (r.toInt = tAway (trX z) d y w)) (fun u t => zPost dC dI (va_A (zX k q z) sz) (zX k q u) t) (va_A (zX k q z) sz)) 0 0 (va_A (zX k q z) sz) := by
  refine Met.ofW (cc := cX6_away) (maxL := 5) (ret := (some .long)) (by decide) rfl ?_
  intro p e s m args below meth c s₁ B hml hv
  obtain ⟨rfl, hsz, hP, hK, hD0⟩ := hv
  have hx := B.exec
  have hb := B.bytes
  have hr := B.returns
  have hts := atoms_spec (ws := wz yX6_away cX6_away 5 (some .long)) B.pre
  have htb : ∀ w ∈ zw, w.before _ s = true := fun w h => hts w (List.mem_cons_of_mem _ h)
  have hown : s.vm.findClass RX6 = some m.cls := findClass_of_methodNamed B.named
  have hlocks := B.notSynchronized
  clear hts
  subst hsz
  have hD := hD0.self (sz := s.heap.size)
  generalize hAe : va_A (zX k q z) s.heap.size = A at hD ⊢
  have hA : ∀ q : Nat, s.heap.size ≤ q → A q := fun q h => by rw [← hAe]; exact Or.inr h
  have hDa : ∀ z9 : ZS, va_D A (zX k q z9) := fun z9 => va_D_adr (w := zX k q z) rfl hD
  have hl := lv_entry ([.ref (q 0), .int d, .int y, .int w]) (n := 5) (Nat.le_of_ble_eq_true rfl)
  rw [lg_entry_eq]
  generalize (lg_sl ([.ref (q 0), .int d, .int y, .int w]) ++ List.replicate (5 - (lg_sl ([.ref (q 0), .int d, .int y, .int w])).length) Slot.unset).toArray = ls at hl ⊢
  have hl : lv_has ls 5 [(0, .ref (q 0)), (1, .int d), (2, .int y), (3, .int w)] := hl
  refine z_start2 (A := A) (w := (zX k q z)) hP (fun H locs hP hS => ?_)
  clear hD0 hAe
  have hT : trX z = trX z := rfl
  refine lv_iload_n hx hb dX6_away_0 rfl (lv_at hl 1 rfl) ?_
  refine zc0_i (w := (zX k q z)) (va_runS (As := [.int d]) (rest := []) ⟨hx, hb, hml, hown, htb⟩ (c_X6_isDesign l dC dI k d _ ) (va_cwS 1 htb (gzS wmt1_211 wmt1_212 wmt1_1 wmt1_213) rfl rfl rfl (by decide +kernel) ⟨Nat.le_of_ble_eq_true rfl, Nat.le_of_ble_eq_true rfl⟩) (zp0_S hK) rfl rfl hl.1 rfl (lv_room (Nat.le_of_ble_eq_true rfl)) dX6_away_1 ⟨Nat.le_of_ble_eq_true rfl, Nat.le_of_ble_eq_true rfl⟩) hP hS hA (fun r_1 u_2 H locs w_3 hP hS => ?_)
  rcases w_3 with ⟨e_5, h_4⟩ | ⟨e_7, h_6⟩
  · skip
    replace e_5 : r_1 = 1 := e_5
    subst e_5
    replace h_4 : 0 ≤ d.toInt ∧ d.toInt < 4 := h_4
    refine lv_if_eq (tgt := 21) hx hb dX6_away_4 (by decide) (fun c_8 => ?_) (fun c_8 => ?_)
    · skip
      exact absurd c_8 (by decide)
    · skip
      refine lv_iload_n hx hb dX6_away_7 rfl (lv_at hl 2 rfl) ?_
      refine zc0_i (w := (zX k q z)) (va_runS (As := [.int y]) (rest := []) ⟨hx, hb, hml, hown, htb⟩ (c_X6_isEither l dC dI k y _ ) (va_cwS 1 htb (gzS wmt2_48 wmt2_49 wmt1_1 wmt2_50) rfl rfl rfl (by decide +kernel) ⟨Nat.le_of_ble_eq_true rfl, Nat.le_of_ble_eq_true rfl⟩) (zp0_S hK) rfl rfl hl.1 rfl (lv_room (Nat.le_of_ble_eq_true rfl)) dX6_away_8 ⟨Nat.le_of_ble_eq_true rfl, Nat.le_of_ble_eq_true rfl⟩) hP hS hA (fun r_9 u_10 H locs w_11 hP hS => ?_)
      rcases w_11 with ⟨e_13, h_12⟩ | ⟨e_15, h_14⟩
      · skip
        replace e_13 : r_9 = 1 := e_13
        subst e_13
        replace h_12 : 0 ≤ y.toInt ∧ y.toInt < 2 := h_12
        refine lv_if_eq (tgt := 21) hx hb dX6_away_11 (by decide) (fun c_16 => ?_) (fun c_16 => ?_)
        · skip
          exact absurd c_16 (by decide)
        · skip
          refine lv_iload_n hx hb dX6_away_14 rfl (lv_at hl 3 rfl) ?_
          refine zc0_i (w := (zX k q z)) (va_runS (As := [.int w]) (rest := []) ⟨hx, hb, hml, hown, htb⟩ (c_X6_isEither l dC dI k w _ ) (va_cwS 1 htb (gzS wmt2_48 wmt2_49 wmt1_1 wmt2_50) rfl rfl rfl (by decide +kernel) ⟨Nat.le_of_ble_eq_true rfl, Nat.le_of_ble_eq_true rfl⟩) (zp0_S hK) rfl rfl hl.1 rfl (lv_room (Nat.le_of_ble_eq_true rfl)) dX6_away_15 ⟨Nat.le_of_ble_eq_true rfl, Nat.le_of_ble_eq_true rfl⟩) hP hS hA (fun r_17 u_18 H locs w_19 hP hS => ?_)
          rcases w_19 with ⟨e_21, h_20⟩ | ⟨e_23, h_22⟩
          · skip
            replace e_21 : r_17 = 1 := e_21
            subst e_21
            replace h_20 : 0 ≤ w.toInt ∧ w.toInt < 2 := h_20
            refine lv_if_ne (tgt := 27) hx hb dX6_away_18 (by decide) (fun c_24 => ?_) (fun c_24 => ?_)
            · skip
              refine lv_aload_n hx hb dX6_away_27 rfl (lv_at hl 0 rfl) ?_
              refine va_get (D := (dC, dI)) (ci := 6) (v := .ref (q 1)) (C := RX6) (T := TX6) (N := 12) hx hb htb inw6 hown hK.1 hP 0 rfl rfl 0 (by decide) (htb _ wmt1_170) (fun _ h9 => h9) rfl dX6_away_28 ?_
              refine lv_iload_n hx hb dX6_away_31 rfl (lv_at hl 1 rfl) ?_
              refine va_aldq (D := (dC, dI)) hx hb hK.1 hP 1 3 rfl rfl (z_in (by omega)) dX6_away_32 ?_
              obtain ⟨d_25, ed_25⟩ : ∃ x : Nat, x = d.toNatClampNeg := ⟨_, rfl⟩
              have hd_25 : d_25 < 4 := by rw [ed_25]; exact z_cl4 (by omega)
              refine z_top (v2 := .ref (qD q d_25 0)) (zgD_at2 ed_25 hd_25) ?_
              refine lv_astore (lv' := [(4, .ref (qD q d_25 0)), (0, .ref (q 0)), (1, .int d), (2, .int y), (3, .int w)]) hx hb dX6_away_33 hl (by decide) rfl (fun ls hl => ?_)
              refine lv_aload hx hb dX6_away_35 (lv_at hl 0 rfl) ?_
              refine zcS_i (w := (zX k q z)) (wc := (zD k (qD q d_25) (xD z d_25))) (va_runV (As := []) (rest := []) ⟨hx, hb, hml, hown, htb⟩ (c_X1_isFaulty l dC dI k (qD q d_25) (xD z d_25) _ ) (cwV 0 htb (gzV wmt2_55 wmt2_20 wmt2_21 wmt1_6 wmt2_22) rfl rfl rfl (by decide +kernel) ⟨Nat.le_of_ble_eq_true rfl, Nat.le_of_ble_eq_true rfl⟩) (zp_V (ci := 1) (q0 := (16 + 3 * d_25)) hK hP (hDa _) [16 + 3 * d_25, 17 + 3 * d_25, 18 + 3 * d_25] (zX_DC hd_25) (zX_ndD hd_25) rfl (zX_D0 hd_25)) rfl rfl hl.1 rfl (lv_room (Nat.le_of_ble_eq_true rfl)) dX6_away_37 ⟨Nat.le_of_ble_eq_true rfl, Nat.le_of_ble_eq_true rfl⟩) hP (hDa _) hS hA [16 + 3 * d_25, 17 + 3 * d_25, 18 + 3 * d_25] (zX_DC hd_25) (fun _ => rfl) (fun r_26 u_27 H locs w_28 hP _ hS => ?_)
              have hP : va_P (dC, dI) vwCl (zX k q z) H := (zX_Dkeep hd_25) ▸ hP
              rcases w_28 with ⟨e_30, h_29⟩ | ⟨e_32, h_31⟩
              · skip
                replace e_30 : r_26 = 1 := e_30
                subst e_30
                replace h_29 : ¬ ((xD z d_25).1 2).toInt = -1 := h_29
                have hfa : ¬ (z.1 (10 + 6 * d_25 + 2)).toInt = -1 := h_29
                refine lv_if_ne (tgt := 54) hx hb dX6_away_40 (by decide) (fun c_33 => ?_) (fun c_33 => ?_)
                · skip
                  refine lv_bipush (v := (-3)) hx hb dX6_away_54 (by decide) ?_
                  refine zc0_l (w := (zX k q z)) (va_runS (As := [.int (-3)]) (rest := []) ⟨hx, hb, hml, hown, htb⟩ (c_X6_asLong l dC dI k (-3) _ ) (va_cwS 1 htb (gzS wmt2_51 wmt2_52 wmt1_1 wmt2_53) rfl rfl rfl (by decide +kernel) ⟨Nat.le_of_ble_eq_true rfl, Nat.le_of_ble_eq_true rfl⟩) (zp0_S hK) rfl rfl hl.1 rfl (lv_room (Nat.le_of_ble_eq_true rfl)) dX6_away_56 ⟨Nat.le_of_ble_eq_true rfl, Nat.le_of_ble_eq_true rfl⟩) hP hS hA (fun r_34 u_35 H locs w_36 hP hS => ?_)
                  have h_37 := w_36
                  replace h_37 : r_34.toInt = tl ((-3) : Int32) := h_37
                  have hal := h_37
                  exact W.lret (v := r_34) hx hb hr (fun t ht hW => ⟨⟨r_34, z, rfl, ⟨hI, hT, hal.trans (tAway_ok (by omega) ed_25 (tAw_f2 (trX_Fg hd_25) hfa))⟩, ⟨by rw [ht]; exact hP, hDa _⟩⟩, hS.F ht⟩) hS.2.2 dX6_away_59
                · skip
                  exact absurd c_33 (by decide)
              · skip
                replace e_32 : r_26 = 0 := e_32
                subst e_32
                replace h_31 : ((xD z d_25).1 2).toInt = -1 := h_31
                have hfa : (z.1 (10 + 6 * d_25 + 2)).toInt = -1 := h_31
                have hlx := tL_X (z := z) hd_25 hfa
                have hlb := hLB d_25 hd_25 (tF_X hd_25 hfa)
                rw [hlx.1, hlx.2.1, hlx.2.2] at hlb
                refine lv_if_ne (tgt := 54) hx hb dX6_away_40 (by decide) (fun c_39 => ?_) (fun c_39 => ?_)
                · skip
                  exact absurd c_39 (by decide)
                · skip
                  refine lv_aload hx hb dX6_away_43 (lv_at hl 0 rfl) ?_
                  refine lv_iload_n hx hb dX6_away_45 rfl (lv_at hl 3 rfl) ?_
                  refine zcS_l (w := (zX k q z)) (wc := (zD k (qD q d_25) (xD z d_25))) (va_runV (As := [.int y]) (rest := []) ⟨hx, hb, hml, hown, htb⟩ (c_X1_lotsIfHasNot_v l dC dI k (qD q d_25) (xD z d_25) y _ (show (0 ≤ (z.1 (10 + 6 * d_25 + 3)).toInt ∧ (z.1 (10 + 6 * d_25 + 3)).toInt ≤ 576) ∧ (0 ≤ (z.1 (10 + 6 * d_25 + 4)).toInt ∧ (z.1 (10 + 6 * d_25 + 4)).toInt ≤ 576) ∧ (0 ≤ (z.1 (10 + 6 * d_25 + 5)).toInt ∧ (z.1 (10 + 6 * d_25 + 5)).toInt ≤ 576) by omega)) (cwV 1 htb (gzV wmt2_231 wmt2_192 wmt2_193 wmt1_6 wmt2_194) rfl rfl rfl (by decide +kernel) ⟨Nat.le_of_ble_eq_true rfl, Nat.le_of_ble_eq_true rfl⟩) (zp_V (ci := 1) (q0 := (16 + 3 * d_25)) hK hP (hDa _) [16 + 3 * d_25, 17 + 3 * d_25, 18 + 3 * d_25] (zX_DC hd_25) (zX_ndD hd_25) rfl (zX_D0 hd_25)) rfl rfl hl.1 rfl (lv_room (Nat.le_of_ble_eq_true rfl)) dX6_away_46 ⟨Nat.le_of_ble_eq_true rfl, Nat.le_of_ble_eq_true rfl⟩) hP (hDa _) hS hA [16 + 3 * d_25, 17 + 3 * d_25, 18 + 3 * d_25] (zX_DC hd_25) (fun _ => rfl) (fun r_40 u_41 H locs w_42 hP _ hS => ?_)
                  have hP : va_P (dC, dI) vwCl (zX k q z) H := (zX_Dkeep hd_25) ▸ hP
                  have h_43 := w_42
                  replace h_43 : r_40.toInt = gA y.toInt ((xD z d_25).1 5).toInt ((xD z d_25).1 4).toInt := h_43
                  have hg1 : r_40.toInt = gA y.toInt (z.1 (10 + 6 * d_25 + 5)).toInt (z.1 (10 + 6 * d_25 + 4)).toInt := h_43
                  have hg1b := gA_b (y := y.toInt) (u := (z.1 (10 + 6 * d_25 + 5)).toInt) (v := (z.1 (10 + 6 * d_25 + 4)).toInt) (by omega)
                  refine lv_lconst (v := 0) hx hb dX6_away_49 (by decide) ?_
                  refine z_lcmp hx hb dX6_away_50 ?_
                  refine lv_if_ne (tgt := 60) hx hb dX6_away_51 (by decide) (fun c_45 => ?_) (fun c_45 => ?_)
                  · skip
                    have hc_45 := zl_ne rfl (show (0 : Int64).toInt = 0 by decide) c_45
                    refine lv_aload_n hx hb dX6_away_60 rfl (lv_at hl 1 rfl) ?_
                    refine va_get (D := (dC, dI)) (ci := 6) (v := .ref (q 15)) (C := RX6) (T := TX6) (N := 12) hx hb htb inw6 hown hK.1 hP 0 rfl rfl 6 (by decide) (htb _ wmt1_176) (fun _ h9 => h9) rfl dX6_away_61 ?_
                    refine lv_aload hx hb dX6_away_64 (lv_at hl 0 rfl) ?_
                    refine lv_iload_n hx hb dX6_away_66 rfl (lv_at hl 3 rfl) ?_
                    refine zcS_l (w := (zX k q z)) (wc := (zD k (qD q d_25) (xD z d_25))) (va_runV (As := [.int y]) (rest := [.ref (q 15)]) ⟨hx, hb, hml, hown, htb⟩ (c_X1_lotsIfHas_v l dC dI k (qD q d_25) (xD z d_25) y _ (show (0 ≤ (z.1 (10 + 6 * d_25 + 3)).toInt ∧ (z.1 (10 + 6 * d_25 + 3)).toInt ≤ 576) ∧ (0 ≤ (z.1 (10 + 6 * d_25 + 4)).toInt ∧ (z.1 (10 + 6 * d_25 + 4)).toInt ≤ 576) ∧ (0 ≤ (z.1 (10 + 6 * d_25 + 5)).toInt ∧ (z.1 (10 + 6 * d_25 + 5)).toInt ≤ 576) by omega)) (cwV 1 htb (gzV wmt2_232 wmt2_188 wmt2_189 wmt1_6 wmt2_190) rfl rfl rfl (by decide +kernel) ⟨Nat.le_of_ble_eq_true rfl, Nat.le_of_ble_eq_true rfl⟩) (zp_V (ci := 1) (q0 := (16 + 3 * d_25)) hK hP (hDa _) [16 + 3 * d_25, 17 + 3 * d_25, 18 + 3 * d_25] (zX_DC hd_25) (zX_ndD hd_25) rfl (zX_D0 hd_25)) rfl rfl hl.1 rfl (lv_room (Nat.le_of_ble_eq_true rfl)) dX6_away_67 ⟨Nat.le_of_ble_eq_true rfl, Nat.le_of_ble_eq_true rfl⟩) hP (hDa _) hS hA [16 + 3 * d_25, 17 + 3 * d_25, 18 + 3 * d_25] (zX_DC hd_25) (fun _ => rfl) (fun r_46 u_47 H locs w_48 hP _ hS => ?_)
                    have hP : va_P (dC, dI) vwCl (zX k q z) H := (zX_Dkeep hd_25) ▸ hP
                    have h_49 := w_48
                    replace h_49 : r_46.toInt = gA y.toInt ((xD z d_25).1 5).toInt ((xD z d_25).1 3).toInt := h_49
                    have hg2 : r_46.toInt = gA y.toInt (z.1 (10 + 6 * d_25 + 5)).toInt (z.1 (10 + 6 * d_25 + 3)).toInt := h_49
                    have hg2b := gA_b (y := y.toInt) (u := (z.1 (10 + 6 * d_25 + 5)).toInt) (v := (z.1 (10 + 6 * d_25 + 3)).toInt) (by omega)
                    refine lv_aload hx hb dX6_away_70 (lv_at hl 0 rfl) ?_
                    refine lv_iload_n hx hb dX6_away_72 rfl (lv_at hl 3 rfl) ?_
                    refine zcS_l (w := (zX k q z)) (wc := (zD k (qD q d_25) (xD z d_25))) (va_runV (As := [.int y]) (rest := [.long r_46, .ref (q 15)]) ⟨hx, hb, hml, hown, htb⟩ (c_X1_lotsIfHasNot_v l dC dI k (qD q d_25) (xD z d_25) y _ (show (0 ≤ (z.1 (10 + 6 * d_25 + 3)).toInt ∧ (z.1 (10 + 6 * d_25 + 3)).toInt ≤ 576) ∧ (0 ≤ (z.1 (10 + 6 * d_25 + 4)).toInt ∧ (z.1 (10 + 6 * d_25 + 4)).toInt ≤ 576) ∧ (0 ≤ (z.1 (10 + 6 * d_25 + 5)).toInt ∧ (z.1 (10 + 6 * d_25 + 5)).toInt ≤ 576) by omega)) (cwV 1 htb (gzV wmt2_231 wmt2_192 wmt2_193 wmt1_6 wmt2_194) rfl rfl rfl (by decide +kernel) ⟨Nat.le_of_ble_eq_true rfl, Nat.le_of_ble_eq_true rfl⟩) (zp_V (ci := 1) (q0 := (16 + 3 * d_25)) hK hP (hDa _) [16 + 3 * d_25, 17 + 3 * d_25, 18 + 3 * d_25] (zX_DC hd_25) (zX_ndD hd_25) rfl (zX_D0 hd_25)) rfl rfl hl.1 rfl (lv_room (Nat.le_of_ble_eq_true rfl)) dX6_away_73 ⟨Nat.le_of_ble_eq_true rfl, Nat.le_of_ble_eq_true rfl⟩) hP (hDa _) hS hA [16 + 3 * d_25, 17 + 3 * d_25, 18 + 3 * d_25] (zX_DC hd_25) (fun _ => rfl) (fun r_51 u_52 H locs w_53 hP _ hS => ?_)
                    have hP : va_P (dC, dI) vwCl (zX k q z) H := (zX_Dkeep hd_25) ▸ hP
                    have h_54 := w_53
                    replace h_54 : r_51.toInt = gA y.toInt ((xD z d_25).1 5).toInt ((xD z d_25).1 4).toInt := h_54
                    have hg3 : r_51.toInt = gA y.toInt (z.1 (10 + 6 * d_25 + 5)).toInt (z.1 (10 + 6 * d_25 + 4)).toInt := h_54
                    have hg3b := gA_b (y := y.toInt) (u := (z.1 (10 + 6 * d_25 + 5)).toInt) (v := (z.1 (10 + 6 * d_25 + 4)).toInt) (by omega)
                    refine zcS_v (w := (zX k q z)) (wc := (zF k (qof q 15) (xF z))) (va_runV (As := [.long r_46, .long r_51]) (rest := []) ⟨hx, hb, hml, hown, htb⟩ (c_X2_become_v l dC dI k (qof q 15) (xF z) r_46 r_51 _ (show 0 ≤ r_46.toInt ∧ r_46.toInt < 4611686018427387904 by omega) (show 0 < r_51.toInt ∧ r_51.toInt < 4611686018427387904 by omega)) (cwV 2 htb (gzV wmt2_56 wmt2_57 wmt2_58 wmt1_5 wmt2_59) rfl rfl rfl (by decide +kernel) ⟨Nat.le_of_ble_eq_true rfl, Nat.le_of_ble_eq_true rfl⟩) (zp_V (ci := 2) (q0 := 15) hK hP (hDa _) [15] rfl (by decide) rfl rfl) rfl rfl hl.1 rfl (lv_room (Nat.le_of_ble_eq_true rfl)) dX6_away_76 ⟨Nat.le_of_ble_eq_true rfl, Nat.le_of_ble_eq_true rfl⟩) hP (hDa _) hS hA [15] rfl (fun _ => rfl) (fun u_57 H locs w_58 hP _ hS => ?_)
                    have hP : va_P (dC, dI) vwCl (zX k q (sJ (sJ z 0 (u_57.2.1 0)) 1 (u_57.2.1 1))) H := hP
                    obtain ⟨h_59, h_60⟩ := w_58
                    replace h_59 : (u_57.2.1 0).toInt = frT r_46.toInt r_51.toInt 0 := h_59
                    replace h_60 : (u_57.2.1 1).toInt = frT r_46.toInt r_51.toInt 1 := h_60
                    have hb0 := h_59
                    have hb1 := h_60
                    refine lv_aload_n hx hb dX6_away_79 rfl (lv_at hl 1 rfl) ?_
                    refine va_get (D := (dC, dI)) (ci := 6) (v := .ref (q 15)) (C := RX6) (T := TX6) (N := 12) hx hb htb inw6 hown hK.1 hP 0 rfl rfl 6 (by decide) (htb _ wmt1_176) (fun _ h9 => h9) rfl dX6_away_80 ?_
                    refine lv_iload_n hx hb dX6_away_83 rfl (lv_at hl 4 rfl) ?_
                    refine zcS_l (w := (zX k q (sJ (sJ z 0 (u_57.2.1 0)) 1 (u_57.2.1 1)))) (wc := (zF k (qof q 15) (xF (sJ (sJ z 0 (u_57.2.1 0)) 1 (u_57.2.1 1))))) (va_runV (As := [.int w]) (rest := []) ⟨hx, hb, hml, hown, htb⟩ (c_X2_told l dC dI k (qof q 15) (xF (sJ (sJ z 0 (u_57.2.1 0)) 1 (u_57.2.1 1))) w _ ) (cwV 1 htb (gzV wmt2_61 wmt2_62 wmt2_63 wmt1_5 wmt2_64) rfl rfl rfl (by decide +kernel) ⟨Nat.le_of_ble_eq_true rfl, Nat.le_of_ble_eq_true rfl⟩) (zp_V (ci := 2) (q0 := 15) hK hP (hDa _) [15] rfl (by decide) rfl rfl) rfl rfl hl.1 rfl (lv_room (Nat.le_of_ble_eq_true rfl)) dX6_away_84 ⟨Nat.le_of_ble_eq_true rfl, Nat.le_of_ble_eq_true rfl⟩) hP (hDa _) hS hA [15] rfl (fun _ => rfl) (fun r_62 u_63 H locs w_64 hP _ hS => ?_)
                    have hP : va_P (dC, dI) vwCl (zX k q (sJ (sJ z 0 (u_57.2.1 0)) 1 (u_57.2.1 1))) H := hP
                    have h_65 := w_64
                    replace h_65 : (w.toInt = 0 → r_62 = (xF (sJ (sJ z 0 (u_57.2.1 0)) 1 (u_57.2.1 1))).2.1 0) ∧ (¬ w.toInt = 0 → r_62 = (xF (sJ (sJ z 0 (u_57.2.1 0)) 1 (u_57.2.1 1))).2.1 1) := h_65
                    have htd := h_65
                    exact W.lret (v := r_62) hx hb hr (fun t ht hW => ⟨⟨r_62, (sJ (sJ z 0 (u_57.2.1 0)) 1 (u_57.2.1 1)), rfl, ⟨hI, hT, (fr_told hb0 hb1 htd).trans (tAway_ok (by omega) ed_25 (by rw [hg2, hg3]; exact tAw_ok (trX_Fg hd_25) hlx.2.1 hlx.2.2 hlx.1 ⟨hfa, by omega⟩))⟩, ⟨by rw [ht]; exact hP, hDa _⟩⟩, hS.F ht⟩) hS.2.2 dX6_away_87
                  · skip
                    have hc_45 := zl_eq rfl (show (0 : Int64).toInt = 0 by decide) c_45
                    refine lv_bipush (v := (-3)) hx hb dX6_away_54 (by decide) ?_
                    refine zc0_l (w := (zX k q z)) (va_runS (As := [.int (-3)]) (rest := []) ⟨hx, hb, hml, hown, htb⟩ (c_X6_asLong l dC dI k (-3) _ ) (va_cwS 1 htb (gzS wmt2_51 wmt2_52 wmt1_1 wmt2_53) rfl rfl rfl (by decide +kernel) ⟨Nat.le_of_ble_eq_true rfl, Nat.le_of_ble_eq_true rfl⟩) (zp0_S hK) rfl rfl hl.1 rfl (lv_room (Nat.le_of_ble_eq_true rfl)) dX6_away_56 ⟨Nat.le_of_ble_eq_true rfl, Nat.le_of_ble_eq_true rfl⟩) hP hS hA (fun r_67 u_68 H locs w_69 hP hS => ?_)
                    have h_70 := w_69
                    replace h_70 : r_67.toInt = tl ((-3) : Int32) := h_70
                    have hal := h_70
                    exact W.lret (v := r_67) hx hb hr (fun t ht hW => ⟨⟨r_67, z, rfl, ⟨hI, hT, hal.trans (tAway_ok (by omega) ed_25 (tAw_f (trX_Fg hd_25) hlx.2.2 hlx.1 (fun q9 => q9.2 (by omega))))⟩, ⟨by rw [ht]; exact hP, hDa _⟩⟩, hS.F ht⟩) hS.2.2 dX6_away_59
            · skip
              exact absurd c_24 (by decide)
          · skip
            replace e_23 : r_17 = 0 := e_23
            subst e_23
            replace h_22 : ¬ (0 ≤ w.toInt ∧ w.toInt < 2) := h_22
            refine lv_if_ne (tgt := 27) hx hb dX6_away_18 (by decide) (fun c_72 => ?_) (fun c_72 => ?_)
            · skip
              exact absurd c_72 (by decide)
            · skip
              refine lv_bipush (v := (-2)) hx hb dX6_away_21 (by decide) ?_
              refine zc0_l (w := (zX k q z)) (va_runS (As := [.int (-2)]) (rest := []) ⟨hx, hb, hml, hown, htb⟩ (c_X6_asLong l dC dI k (-2) _ ) (va_cwS 1 htb (gzS wmt2_51 wmt2_52 wmt1_1 wmt2_53) rfl rfl rfl (by decide +kernel) ⟨Nat.le_of_ble_eq_true rfl, Nat.le_of_ble_eq_true rfl⟩) (zp0_S hK) rfl rfl hl.1 rfl (lv_room (Nat.le_of_ble_eq_true rfl)) dX6_away_23 ⟨Nat.le_of_ble_eq_true rfl, Nat.le_of_ble_eq_true rfl⟩) hP hS hA (fun r_73 u_74 H locs w_75 hP hS => ?_)
              have h_76 := w_75
              replace h_76 : r_73.toInt = tl ((-2) : Int32) := h_76
              have hal := h_76
              exact W.lret (v := r_73) hx hb hr (fun t ht hW => ⟨⟨r_73, z, rfl, ⟨hI, hT, hal.trans (tAway_bad (by omega))⟩, ⟨by rw [ht]; exact hP, hDa _⟩⟩, hS.F ht⟩) hS.2.2 dX6_away_26
      · skip
        replace e_15 : r_9 = 0 := e_15
        subst e_15
        replace h_14 : ¬ (0 ≤ y.toInt ∧ y.toInt < 2) := h_14
        refine lv_if_eq (tgt := 21) hx hb dX6_away_11 (by decide) (fun c_78 => ?_) (fun c_78 => ?_)
        · skip
          refine lv_bipush (v := (-2)) hx hb dX6_away_21 (by decide) ?_
          refine zc0_l (w := (zX k q z)) (va_runS (As := [.int (-2)]) (rest := []) ⟨hx, hb, hml, hown, htb⟩ (c_X6_asLong l dC dI k (-2) _ ) (va_cwS 1 htb (gzS wmt2_51 wmt2_52 wmt1_1 wmt2_53) rfl rfl rfl (by decide +kernel) ⟨Nat.le_of_ble_eq_true rfl, Nat.le_of_ble_eq_true rfl⟩) (zp0_S hK) rfl rfl hl.1 rfl (lv_room (Nat.le_of_ble_eq_true rfl)) dX6_away_23 ⟨Nat.le_of_ble_eq_true rfl, Nat.le_of_ble_eq_true rfl⟩) hP hS hA (fun r_79 u_80 H locs w_81 hP hS => ?_)
          have h_82 := w_81
          replace h_82 : r_79.toInt = tl ((-2) : Int32) := h_82
          have hal := h_82
          exact W.lret (v := r_79) hx hb hr (fun t ht hW => ⟨⟨r_79, z, rfl, ⟨hI, hT, hal.trans (tAway_bad (by omega))⟩, ⟨by rw [ht]; exact hP, hDa _⟩⟩, hS.F ht⟩) hS.2.2 dX6_away_26
        · skip
          exact absurd (by decide) c_78
  · skip
    replace e_7 : r_1 = 0 := e_7
    subst e_7
    replace h_6 : ¬ (0 ≤ d.toInt ∧ d.toInt < 4) := h_6
    refine lv_if_eq (tgt := 21) hx hb dX6_away_4 (by decide) (fun c_84 => ?_) (fun c_84 => ?_)
    · skip
      refine lv_bipush (v := (-2)) hx hb dX6_away_21 (by decide) ?_
      refine zc0_l (w := (zX k q z)) (va_runS (As := [.int (-2)]) (rest := []) ⟨hx, hb, hml, hown, htb⟩ (c_X6_asLong l dC dI k (-2) _ ) (va_cwS 1 htb (gzS wmt2_51 wmt2_52 wmt1_1 wmt2_53) rfl rfl rfl (by decide +kernel) ⟨Nat.le_of_ble_eq_true rfl, Nat.le_of_ble_eq_true rfl⟩) (zp0_S hK) rfl rfl hl.1 rfl (lv_room (Nat.le_of_ble_eq_true rfl)) dX6_away_23 ⟨Nat.le_of_ble_eq_true rfl, Nat.le_of_ble_eq_true rfl⟩) hP hS hA (fun r_85 u_86 H locs w_87 hP hS => ?_)
      have h_88 := w_87
      replace h_88 : r_85.toInt = tl ((-2) : Int32) := h_88
      have hal := h_88
      exact W.lret (v := r_85) hx hb hr (fun t ht hW => ⟨⟨r_85, z, rfl, ⟨hI, hT, hal.trans (tAway_bad (by omega))⟩, ⟨by rw [ht]; exact hP, hDa _⟩⟩, hS.F ht⟩) hS.2.2 dX6_away_26
    · skip
      exact absurd (by decide) c_84
set_option maxHeartbeats 4000000 in
set_option maxRecDepth 100000 in
theorem c_X6_exposed_v (l : Launch) (dC : Nat → ClassId) (dI : Nat → Nat → Nat) (k : Nat → ClassId) (q : Nat → Nat) (z : ZS) (d : Int32) (w : Int32) (sz : Nat) (hI : XInv z) (hLB : LB (trX z)) : Met l yX6_exposed (wz yX6_exposed cX6_exposed 12 (some .long)) ({ frames := 3, cells := 0, slots := 0, locals := 69 }) (va_Pc [.ref (q 0), .int d, .int w] (zPre dC dI k (zTX k) (zX k q z) sz)) (va_Ql (fun (r : Int64) (u : ZS) => (XInv u) ∧ (trX u = trX z) ∧ (r.toInt = tExp (trX z) d w)) (fun u t => zPost dC dI (va_A (zX k q z) sz) (zX k q u) t) (va_A (zX k q z) sz)) 0 0 (va_A (zX k q z) sz) := by
  refine Met.ofW (cc := cX6_exposed) (maxL := 12) (ret := (some .long)) (by decide) rfl ?_
  intro p e s m args below meth c s₁ B hml hv
  obtain ⟨rfl, hsz, hP, hK, hD0⟩ := hv
  have hx := B.exec
  have hb := B.bytes
  have hr := B.returns
  have hts := atoms_spec (ws := wz yX6_exposed cX6_exposed 12 (some .long)) B.pre
  have htb : ∀ w ∈ zw, w.before _ s = true := fun w h => hts w (List.mem_cons_of_mem _ h)
  have hown : s.vm.findClass RX6 = some m.cls := findClass_of_methodNamed B.named
  have hlocks := B.notSynchronized
  clear hts
  subst hsz
  have hD := hD0.self (sz := s.heap.size)
  generalize hAe : va_A (zX k q z) s.heap.size = A at hD ⊢
  have hA : ∀ q : Nat, s.heap.size ≤ q → A q := fun q h => by rw [← hAe]; exact Or.inr h
  have hDa : ∀ z9 : ZS, va_D A (zX k q z9) := fun z9 => va_D_adr (w := zX k q z) rfl hD
  have hl := lv_entry ([.ref (q 0), .int d, .int w]) (n := 12) (Nat.le_of_ble_eq_true rfl)
  rw [lg_entry_eq]
  generalize (lg_sl ([.ref (q 0), .int d, .int w]) ++ List.replicate (12 - (lg_sl ([.ref (q 0), .int d, .int w])).length) Slot.unset).toArray = ls at hl ⊢
  have hl : lv_has ls 12 [(0, .ref (q 0)), (1, .int d), (2, .int w)] := hl
  refine z_start2 (A := A) (w := (zX k q z)) hP (fun H locs hP hS => ?_)
  clear hD0 hAe
  have hT : trX z = trX z := rfl
  refine lv_iload_n hx hb dX6_exposed_0 rfl (lv_at hl 1 rfl) ?_
  refine zc0_i (w := (zX k q z)) (va_runS (As := [.int d]) (rest := []) ⟨hx, hb, hml, hown, htb⟩ (c_X6_isDesign l dC dI k d _ ) (va_cwS 1 htb (gzS wmt1_211 wmt1_212 wmt1_1 wmt1_213) rfl rfl rfl (by decide +kernel) ⟨Nat.le_of_ble_eq_true rfl, Nat.le_of_ble_eq_true rfl⟩) (zp0_S hK) rfl rfl hl.1 rfl (lv_room (Nat.le_of_ble_eq_true rfl)) dX6_exposed_1 ⟨Nat.le_of_ble_eq_true rfl, Nat.le_of_ble_eq_true rfl⟩) hP hS hA (fun r_1 u_2 H locs w_3 hP hS => ?_)
  rcases w_3 with ⟨e_5, h_4⟩ | ⟨e_7, h_6⟩
  · skip
    replace e_5 : r_1 = 1 := e_5
    subst e_5
    replace h_4 : 0 ≤ d.toInt ∧ d.toInt < 4 := h_4
    refine lv_if_eq (tgt := 14) hx hb dX6_exposed_4 (by decide) (fun c_8 => ?_) (fun c_8 => ?_)
    · skip
      exact absurd c_8 (by decide)
    · skip
      refine lv_iload_n hx hb dX6_exposed_7 rfl (lv_at hl 2 rfl) ?_
      refine zc0_i (w := (zX k q z)) (va_runS (As := [.int w]) (rest := []) ⟨hx, hb, hml, hown, htb⟩ (c_X6_isEither l dC dI k w _ ) (va_cwS 1 htb (gzS wmt2_48 wmt2_49 wmt1_1 wmt2_50) rfl rfl rfl (by decide +kernel) ⟨Nat.le_of_ble_eq_true rfl, Nat.le_of_ble_eq_true rfl⟩) (zp0_S hK) rfl rfl hl.1 rfl (lv_room (Nat.le_of_ble_eq_true rfl)) dX6_exposed_8 ⟨Nat.le_of_ble_eq_true rfl, Nat.le_of_ble_eq_true rfl⟩) hP hS hA (fun r_9 u_10 H locs w_11 hP hS => ?_)
      rcases w_11 with ⟨e_13, h_12⟩ | ⟨e_15, h_14⟩
      · skip
        replace e_13 : r_9 = 1 := e_13
        subst e_13
        replace h_12 : 0 ≤ w.toInt ∧ w.toInt < 2 := h_12
        refine lv_if_ne (tgt := 20) hx hb dX6_exposed_11 (by decide) (fun c_16 => ?_) (fun c_16 => ?_)
        · skip
          refine lv_aload_n hx hb dX6_exposed_20 rfl (lv_at hl 0 rfl) ?_
          refine va_get (D := (dC, dI)) (ci := 6) (v := .ref (q 1)) (C := RX6) (T := TX6) (N := 12) hx hb htb inw6 hown hK.1 hP 0 rfl rfl 0 (by decide) (htb _ wmt1_170) (fun _ h9 => h9) rfl dX6_exposed_21 ?_
          refine lv_iload_n hx hb dX6_exposed_24 rfl (lv_at hl 1 rfl) ?_
          refine va_aldq (D := (dC, dI)) hx hb hK.1 hP 1 3 rfl rfl (z_in (by omega)) dX6_exposed_25 ?_
          obtain ⟨d_17, ed_17⟩ : ∃ x : Nat, x = d.toNatClampNeg := ⟨_, rfl⟩
          have hd_17 : d_17 < 4 := by rw [ed_17]; exact z_cl4 (by omega)
          refine z_top (v2 := .ref (qD q d_17 0)) (zgD_at2 ed_17 hd_17) ?_
          refine lv_astore_n (lv' := [(3, .ref (qD q d_17 0)), (0, .ref (q 0)), (1, .int d), (2, .int w)]) hx hb dX6_exposed_26 rfl hl (by decide) rfl (fun ls hl => ?_)
          refine lv_aload_n hx hb dX6_exposed_27 rfl (lv_at hl 0 rfl) ?_
          refine zcS_i (w := (zX k q z)) (wc := (zD k (qD q d_17) (xD z d_17))) (va_runV (As := []) (rest := []) ⟨hx, hb, hml, hown, htb⟩ (c_X1_isFaulty l dC dI k (qD q d_17) (xD z d_17) _ ) (cwV 0 htb (gzV wmt2_55 wmt2_20 wmt2_21 wmt1_6 wmt2_22) rfl rfl rfl (by decide +kernel) ⟨Nat.le_of_ble_eq_true rfl, Nat.le_of_ble_eq_true rfl⟩) (zp_V (ci := 1) (q0 := (16 + 3 * d_17)) hK hP (hDa _) [16 + 3 * d_17, 17 + 3 * d_17, 18 + 3 * d_17] (zX_DC hd_17) (zX_ndD hd_17) rfl (zX_D0 hd_17)) rfl rfl hl.1 rfl (lv_room (Nat.le_of_ble_eq_true rfl)) dX6_exposed_28 ⟨Nat.le_of_ble_eq_true rfl, Nat.le_of_ble_eq_true rfl⟩) hP (hDa _) hS hA [16 + 3 * d_17, 17 + 3 * d_17, 18 + 3 * d_17] (zX_DC hd_17) (fun _ => rfl) (fun r_18 u_19 H locs w_20 hP _ hS => ?_)
          have hP : va_P (dC, dI) vwCl (zX k q z) H := (zX_Dkeep hd_17) ▸ hP
          rcases w_20 with ⟨e_22, h_21⟩ | ⟨e_24, h_23⟩
          · skip
            replace e_22 : r_18 = 1 := e_22
            subst e_22
            replace h_21 : ¬ ((xD z d_17).1 2).toInt = -1 := h_21
            have hfa : ¬ (z.1 (10 + 6 * d_17 + 2)).toInt = -1 := h_21
            refine lv_if_ne (tgt := 41) hx hb dX6_exposed_31 (by decide) (fun c_25 => ?_) (fun c_25 => ?_)
            · skip
              refine lv_bipush (v := (-3)) hx hb dX6_exposed_41 (by decide) ?_
              refine zc0_l (w := (zX k q z)) (va_runS (As := [.int (-3)]) (rest := []) ⟨hx, hb, hml, hown, htb⟩ (c_X6_asLong l dC dI k (-3) _ ) (va_cwS 1 htb (gzS wmt2_51 wmt2_52 wmt1_1 wmt2_53) rfl rfl rfl (by decide +kernel) ⟨Nat.le_of_ble_eq_true rfl, Nat.le_of_ble_eq_true rfl⟩) (zp0_S hK) rfl rfl hl.1 rfl (lv_room (Nat.le_of_ble_eq_true rfl)) dX6_exposed_43 ⟨Nat.le_of_ble_eq_true rfl, Nat.le_of_ble_eq_true rfl⟩) hP hS hA (fun r_26 u_27 H locs w_28 hP hS => ?_)
              have h_29 := w_28
              replace h_29 : r_26.toInt = tl ((-3) : Int32) := h_29
              have hal := h_29
              exact W.lret (v := r_26) hx hb hr (fun t ht hW => ⟨⟨r_26, z, rfl, ⟨hI, hT, hal.trans (tExp_ok (by omega) ed_17 (tEx_f2 (trX_Fg hd_17) hfa))⟩, ⟨by rw [ht]; exact hP, hDa _⟩⟩, hS.F ht⟩) hS.2.2 dX6_exposed_46
            · skip
              exact absurd c_25 (by decide)
          · skip
            replace e_24 : r_18 = 0 := e_24
            subst e_24
            replace h_23 : ((xD z d_17).1 2).toInt = -1 := h_23
            have hfa : (z.1 (10 + 6 * d_17 + 2)).toInt = -1 := h_23
            have hlx := tL_X (z := z) hd_17 hfa
            have hlb := hLB d_17 hd_17 (tF_X hd_17 hfa)
            rw [hlx.1, hlx.2.1, hlx.2.2] at hlb
            refine lv_if_ne (tgt := 41) hx hb dX6_exposed_31 (by decide) (fun c_31 => ?_) (fun c_31 => ?_)
            · skip
              exact absurd c_31 (by decide)
            · skip
              refine lv_aload_n hx hb dX6_exposed_34 rfl (lv_at hl 0 rfl) ?_
              refine zcS_i (w := (zX k q z)) (wc := (zD k (qD q d_17) (xD z d_17))) (va_runV (As := []) (rest := []) ⟨hx, hb, hml, hown, htb⟩ (c_X1_isOpen_v l dC dI k (qD q d_17) (xD z d_17) _ ) (cwV 0 htb (gzV wmt3_30 wmt3_31 wmt3_32 wmt1_6 wmt3_33) rfl rfl rfl (by decide +kernel) ⟨Nat.le_of_ble_eq_true rfl, Nat.le_of_ble_eq_true rfl⟩) (zp_V (ci := 1) (q0 := (16 + 3 * d_17)) hK hP (hDa _) [16 + 3 * d_17, 17 + 3 * d_17, 18 + 3 * d_17] (zX_DC hd_17) (zX_ndD hd_17) rfl (zX_D0 hd_17)) rfl rfl hl.1 rfl (lv_room (Nat.le_of_ble_eq_true rfl)) dX6_exposed_35 ⟨Nat.le_of_ble_eq_true rfl, Nat.le_of_ble_eq_true rfl⟩) hP (hDa _) hS hA [16 + 3 * d_17, 17 + 3 * d_17, 18 + 3 * d_17] (zX_DC hd_17) (fun _ => rfl) (fun r_32 u_33 H locs w_34 hP _ hS => ?_)
              have hP : va_P (dC, dI) vwCl (zX k q z) H := (zX_Dkeep hd_17) ▸ hP
              rcases w_34 with ⟨e_36, h_35⟩ | ⟨e_38, h_37⟩
              · skip
                replace e_36 : r_32 = 1 := e_36
                subst e_36
                replace h_35 : opn ((xD z d_17).1 5).toInt ((xD z d_17).1 3).toInt ((xD z d_17).1 4).toInt := h_35
                have hop : opn (z.1 (10 + 6 * d_17 + 5)).toInt (z.1 (10 + 6 * d_17 + 3)).toInt (z.1 (10 + 6 * d_17 + 4)).toInt := h_35
                have hmm := mm_b hop
                refine lv_if_ne (tgt := 47) hx hb dX6_exposed_38 (by decide) (fun c_39 => ?_) (fun c_39 => ?_)
                · skip
                  refine lv_aload_n hx hb dX6_exposed_47 rfl (lv_at hl 0 rfl) ?_
                  refine va_get (D := (dC, dI)) (ci := 1) (v := .int (z.1 (10 + 6 * d_17 + 3))) (C := RX1) (T := TX1) (N := 9) hx hb htb inw1 hown hK.1 hP (16 + 3 * d_17) (zX_D0 hd_17) rfl 6 (by decide) (htb _ wmt1_127) (fun _ h9 => h9) rfl dX6_exposed_48 ?_
                  refine lv_topi (fun x_40 ex_40 => ?_)
                  have hx_40 : x_40.toInt = (z.1 (10 + 6 * d_17 + 3)).toInt := by rw [ex_40]
                  refine lv_aload_n hx hb dX6_exposed_51 rfl (lv_at hl 0 rfl) ?_
                  refine va_get (D := (dC, dI)) (ci := 1) (v := .int (z.1 (10 + 6 * d_17 + 4))) (C := RX1) (T := TX1) (N := 9) hx hb htb inw1 hown hK.1 hP (16 + 3 * d_17) (zX_D0 hd_17) rfl 7 (by decide) (htb _ wmt1_129) (fun _ h9 => h9) rfl dX6_exposed_52 ?_
                  refine lv_topi (fun x_41 ex_41 => ?_)
                  have hx_41 : x_41.toInt = (z.1 (10 + 6 * d_17 + 4)).toInt := by rw [ex_41]
                  refine va_mmax hx hb (hml.trans hl.1.symm) hown (htb _ wmt3_34) (htb _ wmt2_204) (htb _ wmt1_10) (htb _ wmt2_205) (Nat.le_of_ble_eq_true rfl) (Nat.le_of_ble_eq_true rfl) (Nat.le_of_ble_eq_true rfl) (Nat.le_of_ble_eq_true rfl) dX6_exposed_55 ?_
                  refine lv_topi (fun x_42 ex_42 => ?_)
                  have hmx : x_42.toInt = mxI (z.1 (10 + 6 * d_17 + 3)).toInt (z.1 (10 + 6 * d_17 + 4)).toInt := by rw [z_mxI ex_42, hx_40, hx_41]
                  refine lv_i2l (v := x_42.toInt64) hx hb dX6_exposed_58 rfl ?_
                  refine lv_topl (fun x_43 ex_43 => ?_)
                  have hx_43 : x_43.toInt = x_42.toInt := by rw [ex_43]; exact Jvm.Kit.i64_of_i32 _
                  have hma : x_43.toInt = mxI (z.1 (10 + 6 * d_17 + 3)).toInt (z.1 (10 + 6 * d_17 + 4)).toInt := by omega
                  refine lv_lstore (lv' := [(4, .long x_43), (3, .ref (qD q d_17 0)), (0, .ref (q 0)), (1, .int d), (2, .int w)]) hx hb dX6_exposed_59 hl (by decide) rfl (fun ls hl => ?_)
                  refine lv_aload_n hx hb dX6_exposed_61 rfl (lv_at hl 1 rfl) ?_
                  refine va_get (D := (dC, dI)) (ci := 1) (v := .int (z.1 (10 + 6 * d_17 + 3))) (C := RX1) (T := TX1) (N := 9) hx hb htb inw1 hown hK.1 hP (16 + 3 * d_17) (zX_D0 hd_17) rfl 6 (by decide) (htb _ wmt1_127) (fun _ h9 => h9) rfl dX6_exposed_62 ?_
                  refine z_top (v2 := .int x_40) (congrArg Value.int ex_40.symm) ?_
                  refine lv_aload_n hx hb dX6_exposed_65 rfl (lv_at hl 1 rfl) ?_
                  refine va_get (D := (dC, dI)) (ci := 1) (v := .int (z.1 (10 + 6 * d_17 + 4))) (C := RX1) (T := TX1) (N := 9) hx hb htb inw1 hown hK.1 hP (16 + 3 * d_17) (zX_D0 hd_17) rfl 7 (by decide) (htb _ wmt1_129) (fun _ h9 => h9) rfl dX6_exposed_66 ?_
                  refine z_top (v2 := .int x_41) (congrArg Value.int ex_41.symm) ?_
                  refine va_mmin hx hb (hml.trans hl.1.symm) hown (htb _ wmt3_35) (htb _ wmt3_36) (htb _ wmt1_10) (htb _ wmt3_37) (Nat.le_of_ble_eq_true rfl) (Nat.le_of_ble_eq_true rfl) (Nat.le_of_ble_eq_true rfl) (Nat.le_of_ble_eq_true rfl) dX6_exposed_69 ?_
                  refine lv_topi (fun x_44 ex_44 => ?_)
                  have hmn : x_44.toInt = mnI (z.1 (10 + 6 * d_17 + 3)).toInt (z.1 (10 + 6 * d_17 + 4)).toInt := by rw [z_mnI ex_44, hx_40, hx_41]
                  refine lv_i2l (v := x_44.toInt64) hx hb dX6_exposed_72 rfl ?_
                  refine lv_topl (fun x_45 ex_45 => ?_)
                  have hx_45 : x_45.toInt = x_44.toInt := by rw [ex_45]; exact Jvm.Kit.i64_of_i32 _
                  have hmb : x_45.toInt = mnI (z.1 (10 + 6 * d_17 + 3)).toInt (z.1 (10 + 6 * d_17 + 4)).toInt := by omega
                  refine lv_lstore (lv' := [(6, .long x_45), (4, .long x_43), (3, .ref (qD q d_17 0)), (0, .ref (q 0)), (1, .int d), (2, .int w)]) hx hb dX6_exposed_73 hl (by decide) rfl (fun ls hl => ?_)
                  refine lv_aload_n hx hb dX6_exposed_75 rfl (lv_at hl 2 rfl) ?_
                  refine va_get (D := (dC, dI)) (ci := 1) (v := .int (z.1 (10 + 6 * d_17 + 5))) (C := RX1) (T := TX1) (N := 9) hx hb htb inw1 hown hK.1 hP (16 + 3 * d_17) (zX_D0 hd_17) rfl 8 (by decide) (htb _ wmt1_132) (fun _ h9 => h9) rfl dX6_exposed_76 ?_
                  refine lv_topi (fun x_46 ex_46 => ?_)
                  have hx_46 : x_46.toInt = (z.1 (10 + 6 * d_17 + 5)).toInt := by rw [ex_46]
                  refine lv_i2l (v := x_46.toInt64) hx hb dX6_exposed_79 rfl ?_
                  refine lv_topl (fun x_47 ex_47 => ?_)
                  have hx_47 : x_47.toInt = x_46.toInt := by rw [ex_47]; exact Jvm.Kit.i64_of_i32 _
                  refine lv_lload hx hb dX6_exposed_80 (lv_at hl 0 rfl) ?_
                  refine lv_lsub hx hb dX6_exposed_82 ?_
                  refine lv_topl (fun x_48 ex_48 => ?_)
                  have hmL : x_48.toInt = (z.1 (10 + 6 * d_17 + 5)).toInt - x_45.toInt := by have q := zl_sub ex_48 rfl rfl (by omega); omega
                  refine lv_lstore (lv' := [(8, .long x_48), (6, .long x_45), (4, .long x_43), (3, .ref (qD q d_17 0)), (0, .ref (q 0)), (1, .int d), (2, .int w)]) hx hb dX6_exposed_83 hl (by decide) rfl (fun ls hl => ?_)
                  refine lv_aload_n hx hb dX6_exposed_85 rfl (lv_at hl 3 rfl) ?_
                  refine va_get (D := (dC, dI)) (ci := 1) (v := .int (z.1 (10 + 6 * d_17 + 5))) (C := RX1) (T := TX1) (N := 9) hx hb htb inw1 hown hK.1 hP (16 + 3 * d_17) (zX_D0 hd_17) rfl 8 (by decide) (htb _ wmt1_132) (fun _ h9 => h9) rfl dX6_exposed_86 ?_
                  refine z_top (v2 := .int x_46) (congrArg Value.int ex_46.symm) ?_
                  refine lv_i2l (v := x_46.toInt64) hx hb dX6_exposed_89 rfl ?_
                  refine lv_topl (fun x_49 ex_49 => ?_)
                  have hx_49 : x_49.toInt = x_46.toInt := by rw [ex_49]; exact Jvm.Kit.i64_of_i32 _
                  refine lv_lload hx hb dX6_exposed_90 (lv_at hl 2 rfl) ?_
                  refine lv_lsub hx hb dX6_exposed_92 ?_
                  refine lv_topl (fun x_50 ex_50 => ?_)
                  have hmM : x_50.toInt = (z.1 (10 + 6 * d_17 + 5)).toInt - x_43.toInt := by have q := zl_sub ex_50 rfl rfl (by omega); omega
                  refine lv_lstore (lv' := [(10, .long x_50), (8, .long x_48), (6, .long x_45), (4, .long x_43), (3, .ref (qD q d_17 0)), (0, .ref (q 0)), (1, .int d), (2, .int w)]) hx hb dX6_exposed_93 hl (by decide) rfl (fun ls hl => ?_)
                  refine lv_lload hx hb dX6_exposed_95 (lv_at hl 3 rfl) ?_
                  refine lv_lload hx hb dX6_exposed_97 (lv_at hl 0 rfl) ?_
                  refine lv_lmul hx hb dX6_exposed_99 ?_
                  refine lv_topl (fun x_51 ex_51 => ?_)
                  have qx_51 := z_mulb (a := x_43.toInt) (b := x_50.toInt) (A := 576) (B := 576) (by omega) (by omega)
                  have hx_51 := zl_mul ex_51 rfl rfl (by omega)
                  have hk1 : x_51.toInt = x_43.toInt * ((z.1 (10 + 6 * d_17 + 5)).toInt - x_43.toInt) := by rw [hx_51, hmM]
                  refine lv_lload hx hb dX6_exposed_100 (lv_at hl 1 rfl) ?_
                  refine lv_lload hx hb dX6_exposed_102 (lv_at hl 2 rfl) ?_
                  refine lv_lmul hx hb dX6_exposed_104 ?_
                  refine lv_topl (fun x_52 ex_52 => ?_)
                  have qx_52 := z_mulb (a := x_48.toInt) (b := x_45.toInt) (A := 576) (B := 576) (by omega) (by omega)
                  have hx_52 := zl_mul ex_52 rfl rfl (by omega)
                  have hk2 : x_52.toInt = ((z.1 (10 + 6 * d_17 + 5)).toInt - x_45.toInt) * x_45.toInt := by rw [hx_52, hmL]
                  refine z_lcmp hx hb dX6_exposed_105 ?_
                  refine lv_if_lt (tgt := 123) hx hb dX6_exposed_106 (by decide) (fun c_53 => ?_) (fun c_53 => ?_)
                  · skip
                    have hc_53 := zl_lt rfl rfl c_53
                    refine lv_aload_n hx hb dX6_exposed_123 rfl (lv_at hl 5 rfl) ?_
                    refine va_get (D := (dC, dI)) (ci := 6) (v := .ref (q 15)) (C := RX6) (T := TX6) (N := 12) hx hb htb inw6 hown hK.1 hP 0 rfl rfl 6 (by decide) (htb _ wmt1_176) (fun _ h9 => h9) rfl dX6_exposed_124 ?_
                    refine lv_lload hx hb dX6_exposed_127 (lv_at hl 1 rfl) ?_
                    refine lv_lload hx hb dX6_exposed_129 (lv_at hl 0 rfl) ?_
                    refine zcS_v (w := (zX k q z)) (wc := (zF k (qof q 15) (xF z))) (va_runV (As := [.long x_48, .long x_50]) (rest := []) ⟨hx, hb, hml, hown, htb⟩ (c_X2_become_v l dC dI k (qof q 15) (xF z) x_48 x_50 _ (show 0 ≤ x_48.toInt ∧ x_48.toInt < 4611686018427387904 by omega) (show 0 < x_50.toInt ∧ x_50.toInt < 4611686018427387904 by omega)) (cwV 2 htb (gzV wmt2_56 wmt2_57 wmt2_58 wmt1_5 wmt2_59) rfl rfl rfl (by decide +kernel) ⟨Nat.le_of_ble_eq_true rfl, Nat.le_of_ble_eq_true rfl⟩) (zp_V (ci := 2) (q0 := 15) hK hP (hDa _) [15] rfl (by decide) rfl rfl) rfl rfl hl.1 rfl (lv_room (Nat.le_of_ble_eq_true rfl)) dX6_exposed_131 ⟨Nat.le_of_ble_eq_true rfl, Nat.le_of_ble_eq_true rfl⟩) hP (hDa _) hS hA [15] rfl (fun _ => rfl) (fun u_55 H locs w_56 hP _ hS => ?_)
                    have hP : va_P (dC, dI) vwCl (zX k q (sJ (sJ z 0 (u_55.2.1 0)) 1 (u_55.2.1 1))) H := hP
                    obtain ⟨h_57, h_58⟩ := w_56
                    replace h_57 : (u_55.2.1 0).toInt = frT x_48.toInt x_50.toInt 0 := h_57
                    replace h_58 : (u_55.2.1 1).toInt = frT x_48.toInt x_50.toInt 1 := h_58
                    have hb0 := h_57
                    have hb1 := h_58
                    refine lv_aload_n hx hb dX6_exposed_134 rfl (lv_at hl 5 rfl) ?_
                    refine va_get (D := (dC, dI)) (ci := 6) (v := .ref (q 15)) (C := RX6) (T := TX6) (N := 12) hx hb htb inw6 hown hK.1 hP 0 rfl rfl 6 (by decide) (htb _ wmt1_176) (fun _ h9 => h9) rfl dX6_exposed_135 ?_
                    refine lv_iload_n hx hb dX6_exposed_138 rfl (lv_at hl 7 rfl) ?_
                    refine zcS_l (w := (zX k q (sJ (sJ z 0 (u_55.2.1 0)) 1 (u_55.2.1 1)))) (wc := (zF k (qof q 15) (xF (sJ (sJ z 0 (u_55.2.1 0)) 1 (u_55.2.1 1))))) (va_runV (As := [.int w]) (rest := []) ⟨hx, hb, hml, hown, htb⟩ (c_X2_told l dC dI k (qof q 15) (xF (sJ (sJ z 0 (u_55.2.1 0)) 1 (u_55.2.1 1))) w _ ) (cwV 1 htb (gzV wmt2_61 wmt2_62 wmt2_63 wmt1_5 wmt2_64) rfl rfl rfl (by decide +kernel) ⟨Nat.le_of_ble_eq_true rfl, Nat.le_of_ble_eq_true rfl⟩) (zp_V (ci := 2) (q0 := 15) hK hP (hDa _) [15] rfl (by decide) rfl rfl) rfl rfl hl.1 rfl (lv_room (Nat.le_of_ble_eq_true rfl)) dX6_exposed_139 ⟨Nat.le_of_ble_eq_true rfl, Nat.le_of_ble_eq_true rfl⟩) hP (hDa _) hS hA [15] rfl (fun _ => rfl) (fun r_60 u_61 H locs w_62 hP _ hS => ?_)
                    have hP : va_P (dC, dI) vwCl (zX k q (sJ (sJ z 0 (u_55.2.1 0)) 1 (u_55.2.1 1))) H := hP
                    have h_63 := w_62
                    replace h_63 : (w.toInt = 0 → r_60 = (xF (sJ (sJ z 0 (u_55.2.1 0)) 1 (u_55.2.1 1))).2.1 0) ∧ (¬ w.toInt = 0 → r_60 = (xF (sJ (sJ z 0 (u_55.2.1 0)) 1 (u_55.2.1 1))).2.1 1) := h_63
                    have htd := h_63
                    exact W.lret (v := r_60) hx hb hr (fun t ht hW => ⟨⟨r_60, (sJ (sJ z 0 (u_55.2.1 0)) 1 (u_55.2.1 1)), rfl, ⟨hI, hT, (fr_told hb0 hb1 htd).trans (tExp_ok (by omega) ed_17 (by rw [hmL, hmM]; exact (eX_0 hma hmb (by rw [← hk1, ← hk2]; omega)).trans (tEx_ok (trX_Fg hd_17) hlx.2.1 hlx.2.2 hlx.1 ⟨hfa, hop⟩)))⟩, ⟨by rw [ht]; exact hP, hDa _⟩⟩, hS.F ht⟩) hS.2.2 dX6_exposed_142
                  · skip
                    have hc_53 := zl_nlt rfl rfl c_53
                    refine lv_aload_n hx hb dX6_exposed_109 rfl (lv_at hl 5 rfl) ?_
                    refine va_get (D := (dC, dI)) (ci := 6) (v := .ref (q 15)) (C := RX6) (T := TX6) (N := 12) hx hb htb inw6 hown hK.1 hP 0 rfl rfl 6 (by decide) (htb _ wmt1_176) (fun _ h9 => h9) rfl dX6_exposed_110 ?_
                    refine lv_lload hx hb dX6_exposed_113 (lv_at hl 3 rfl) ?_
                    refine lv_lload hx hb dX6_exposed_115 (lv_at hl 2 rfl) ?_
                    refine zcS_v (w := (zX k q z)) (wc := (zF k (qof q 15) (xF z))) (va_runV (As := [.long x_43, .long x_45]) (rest := []) ⟨hx, hb, hml, hown, htb⟩ (c_X2_become_v l dC dI k (qof q 15) (xF z) x_43 x_45 _ (show 0 ≤ x_43.toInt ∧ x_43.toInt < 4611686018427387904 by omega) (show 0 < x_45.toInt ∧ x_45.toInt < 4611686018427387904 by omega)) (cwV 2 htb (gzV wmt2_56 wmt2_57 wmt2_58 wmt1_5 wmt2_59) rfl rfl rfl (by decide +kernel) ⟨Nat.le_of_ble_eq_true rfl, Nat.le_of_ble_eq_true rfl⟩) (zp_V (ci := 2) (q0 := 15) hK hP (hDa _) [15] rfl (by decide) rfl rfl) rfl rfl hl.1 rfl (lv_room (Nat.le_of_ble_eq_true rfl)) dX6_exposed_117 ⟨Nat.le_of_ble_eq_true rfl, Nat.le_of_ble_eq_true rfl⟩) hP (hDa _) hS hA [15] rfl (fun _ => rfl) (fun u_66 H locs w_67 hP _ hS => ?_)
                    have hP : va_P (dC, dI) vwCl (zX k q (sJ (sJ z 0 (u_66.2.1 0)) 1 (u_66.2.1 1))) H := hP
                    obtain ⟨h_68, h_69⟩ := w_67
                    replace h_68 : (u_66.2.1 0).toInt = frT x_43.toInt x_45.toInt 0 := h_68
                    replace h_69 : (u_66.2.1 1).toInt = frT x_43.toInt x_45.toInt 1 := h_69
                    have hb0 := h_68
                    have hb1 := h_69
                    refine lv_goto (tgt := 134) hx hb dX6_exposed_120 (by decide) ?_
                    refine lv_aload_n hx hb dX6_exposed_134 rfl (lv_at hl 5 rfl) ?_
                    refine va_get (D := (dC, dI)) (ci := 6) (v := .ref (q 15)) (C := RX6) (T := TX6) (N := 12) hx hb htb inw6 hown hK.1 hP 0 rfl rfl 6 (by decide) (htb _ wmt1_176) (fun _ h9 => h9) rfl dX6_exposed_135 ?_
                    refine lv_iload_n hx hb dX6_exposed_138 rfl (lv_at hl 7 rfl) ?_
                    refine zcS_l (w := (zX k q (sJ (sJ z 0 (u_66.2.1 0)) 1 (u_66.2.1 1)))) (wc := (zF k (qof q 15) (xF (sJ (sJ z 0 (u_66.2.1 0)) 1 (u_66.2.1 1))))) (va_runV (As := [.int w]) (rest := []) ⟨hx, hb, hml, hown, htb⟩ (c_X2_told l dC dI k (qof q 15) (xF (sJ (sJ z 0 (u_66.2.1 0)) 1 (u_66.2.1 1))) w _ ) (cwV 1 htb (gzV wmt2_61 wmt2_62 wmt2_63 wmt1_5 wmt2_64) rfl rfl rfl (by decide +kernel) ⟨Nat.le_of_ble_eq_true rfl, Nat.le_of_ble_eq_true rfl⟩) (zp_V (ci := 2) (q0 := 15) hK hP (hDa _) [15] rfl (by decide) rfl rfl) rfl rfl hl.1 rfl (lv_room (Nat.le_of_ble_eq_true rfl)) dX6_exposed_139 ⟨Nat.le_of_ble_eq_true rfl, Nat.le_of_ble_eq_true rfl⟩) hP (hDa _) hS hA [15] rfl (fun _ => rfl) (fun r_71 u_72 H locs w_73 hP _ hS => ?_)
                    have hP : va_P (dC, dI) vwCl (zX k q (sJ (sJ z 0 (u_66.2.1 0)) 1 (u_66.2.1 1))) H := hP
                    have h_74 := w_73
                    replace h_74 : (w.toInt = 0 → r_71 = (xF (sJ (sJ z 0 (u_66.2.1 0)) 1 (u_66.2.1 1))).2.1 0) ∧ (¬ w.toInt = 0 → r_71 = (xF (sJ (sJ z 0 (u_66.2.1 0)) 1 (u_66.2.1 1))).2.1 1) := h_74
                    have htd := h_74
                    exact W.lret (v := r_71) hx hb hr (fun t ht hW => ⟨⟨r_71, (sJ (sJ z 0 (u_66.2.1 0)) 1 (u_66.2.1 1)), rfl, ⟨hI, hT, (fr_told hb0 hb1 htd).trans (tExp_ok (by omega) ed_17 (by exact (eX_1 hma hmb (by rw [← hk1, ← hk2]; omega)).trans (tEx_ok (trX_Fg hd_17) hlx.2.1 hlx.2.2 hlx.1 ⟨hfa, hop⟩)))⟩, ⟨by rw [ht]; exact hP, hDa _⟩⟩, hS.F ht⟩) hS.2.2 dX6_exposed_142
                · skip
                  exact absurd c_39 (by decide)
              · skip
                replace e_38 : r_32 = 0 := e_38
                subst e_38
                replace h_37 : ¬ opn ((xD z d_17).1 5).toInt ((xD z d_17).1 3).toInt ((xD z d_17).1 4).toInt := h_37
                have hop : ¬ opn (z.1 (10 + 6 * d_17 + 5)).toInt (z.1 (10 + 6 * d_17 + 3)).toInt (z.1 (10 + 6 * d_17 + 4)).toInt := h_37
                refine lv_if_ne (tgt := 47) hx hb dX6_exposed_38 (by decide) (fun c_76 => ?_) (fun c_76 => ?_)
                · skip
                  exact absurd c_76 (by decide)
                · skip
                  refine lv_bipush (v := (-3)) hx hb dX6_exposed_41 (by decide) ?_
                  refine zc0_l (w := (zX k q z)) (va_runS (As := [.int (-3)]) (rest := []) ⟨hx, hb, hml, hown, htb⟩ (c_X6_asLong l dC dI k (-3) _ ) (va_cwS 1 htb (gzS wmt2_51 wmt2_52 wmt1_1 wmt2_53) rfl rfl rfl (by decide +kernel) ⟨Nat.le_of_ble_eq_true rfl, Nat.le_of_ble_eq_true rfl⟩) (zp0_S hK) rfl rfl hl.1 rfl (lv_room (Nat.le_of_ble_eq_true rfl)) dX6_exposed_43 ⟨Nat.le_of_ble_eq_true rfl, Nat.le_of_ble_eq_true rfl⟩) hP hS hA (fun r_77 u_78 H locs w_79 hP hS => ?_)
                  have h_80 := w_79
                  replace h_80 : r_77.toInt = tl ((-3) : Int32) := h_80
                  have hal := h_80
                  exact W.lret (v := r_77) hx hb hr (fun t ht hW => ⟨⟨r_77, z, rfl, ⟨hI, hT, hal.trans (tExp_ok (by omega) ed_17 (tEx_f (trX_Fg hd_17) hlx.2.1 hlx.2.2 hlx.1 (fun q9 => hop q9.2)))⟩, ⟨by rw [ht]; exact hP, hDa _⟩⟩, hS.F ht⟩) hS.2.2 dX6_exposed_46
        · skip
          exact absurd c_16 (by decide)
      · skip
        replace e_15 : r_9 = 0 := e_15
        subst e_15
        replace h_14 : ¬ (0 ≤ w.toInt ∧ w.toInt < 2) := h_14
        refine lv_if_ne (tgt := 20) hx hb dX6_exposed_11 (by decide) (fun c_82 => ?_) (fun c_82 => ?_)
        · skip
          exact absurd c_82 (by decide)
        · skip
          refine lv_bipush (v := (-2)) hx hb dX6_exposed_14 (by decide) ?_
          refine zc0_l (w := (zX k q z)) (va_runS (As := [.int (-2)]) (rest := []) ⟨hx, hb, hml, hown, htb⟩ (c_X6_asLong l dC dI k (-2) _ ) (va_cwS 1 htb (gzS wmt2_51 wmt2_52 wmt1_1 wmt2_53) rfl rfl rfl (by decide +kernel) ⟨Nat.le_of_ble_eq_true rfl, Nat.le_of_ble_eq_true rfl⟩) (zp0_S hK) rfl rfl hl.1 rfl (lv_room (Nat.le_of_ble_eq_true rfl)) dX6_exposed_16 ⟨Nat.le_of_ble_eq_true rfl, Nat.le_of_ble_eq_true rfl⟩) hP hS hA (fun r_83 u_84 H locs w_85 hP hS => ?_)
          have h_86 := w_85
          replace h_86 : r_83.toInt = tl ((-2) : Int32) := h_86
          have hal := h_86
          exact W.lret (v := r_83) hx hb hr (fun t ht hW => ⟨⟨r_83, z, rfl, ⟨hI, hT, hal.trans (tExp_bad (by omega))⟩, ⟨by rw [ht]; exact hP, hDa _⟩⟩, hS.F ht⟩) hS.2.2 dX6_exposed_19
  · skip
    replace e_7 : r_1 = 0 := e_7
    subst e_7
    replace h_6 : ¬ (0 ≤ d.toInt ∧ d.toInt < 4) := h_6
    refine lv_if_eq (tgt := 14) hx hb dX6_exposed_4 (by decide) (fun c_88 => ?_) (fun c_88 => ?_)
    · skip
      refine lv_bipush (v := (-2)) hx hb dX6_exposed_14 (by decide) ?_
      refine zc0_l (w := (zX k q z)) (va_runS (As := [.int (-2)]) (rest := []) ⟨hx, hb, hml, hown, htb⟩ (c_X6_asLong l dC dI k (-2) _ ) (va_cwS 1 htb (gzS wmt2_51 wmt2_52 wmt1_1 wmt2_53) rfl rfl rfl (by decide +kernel) ⟨Nat.le_of_ble_eq_true rfl, Nat.le_of_ble_eq_true rfl⟩) (zp0_S hK) rfl rfl hl.1 rfl (lv_room (Nat.le_of_ble_eq_true rfl)) dX6_exposed_16 ⟨Nat.le_of_ble_eq_true rfl, Nat.le_of_ble_eq_true rfl⟩) hP hS hA (fun r_89 u_90 H locs w_91 hP hS => ?_)
      have h_92 := w_91
      replace h_92 : r_89.toInt = tl ((-2) : Int32) := h_92
      have hal := h_92
      exact W.lret (v := r_89) hx hb hr (fun t ht hW => ⟨⟨r_89, z, rfl, ⟨hI, hT, hal.trans (tExp_bad (by omega))⟩, ⟨by rw [ht]; exact hP, hDa _⟩⟩, hS.F ht⟩) hS.2.2 dX6_exposed_19
    · skip
      exact absurd (by decide) c_88
set_option maxHeartbeats 4000000 in
set_option maxRecDepth 100000 in
theorem c_X6_type (l : Launch) (dC : Nat → ClassId) (dI : Nat → Nat → Nat) (k : Nat → ClassId) (q : Nat → Nat) (z : ZS) (d : Int32) (bb : Int32) (sz : Nat) (hI : XInv z) : Met l yX6_type (wz yX6_type cX6_type 4 (some .int)) ({ frames := 6, cells := 0, slots := 0, locals := 135 }) (va_Pc [.ref (q 0), .int d, .int bb] (zPre dC dI k (zTX k) (zX k q z) sz)) (va_Qi (fun (r : Int32) (u : ZS) => (XInv u) ∧ ((r, trX u) = tType (trX z) d bb)) (fun u t => zPost dC dI (va_A (zX k q z) sz) (zX k q u) t) (va_A (zX k q z) sz)) 0 0 (va_A (zX k q z) sz) := by
  refine Met.ofW (cc := cX6_type) (maxL := 4) (ret := (some .int)) (by decide) rfl ?_
  intro p e s m args below meth c s₁ B hml hv
  obtain ⟨rfl, hsz, hP, hK, hD0⟩ := hv
  have hx := B.exec
  have hb := B.bytes
  have hr := B.returns
  have hts := atoms_spec (ws := wz yX6_type cX6_type 4 (some .int)) B.pre
  have htb : ∀ w ∈ zw, w.before _ s = true := fun w h => hts w (List.mem_cons_of_mem _ h)
  have hown : s.vm.findClass RX6 = some m.cls := findClass_of_methodNamed B.named
  have hlocks := B.notSynchronized
  clear hts
  subst hsz
  have hD := hD0.self (sz := s.heap.size)
  generalize hAe : va_A (zX k q z) s.heap.size = A at hD ⊢
  have hA : ∀ q : Nat, s.heap.size ≤ q → A q := fun q h => by rw [← hAe]; exact Or.inr h
  have hDa : ∀ z9 : ZS, va_D A (zX k q z9) := fun z9 => va_D_adr (w := zX k q z) rfl hD
  have hl := lv_entry ([.ref (q 0), .int d, .int bb]) (n := 4) (Nat.le_of_ble_eq_true rfl)
  rw [lg_entry_eq]
  generalize (lg_sl ([.ref (q 0), .int d, .int bb]) ++ List.replicate (4 - (lg_sl ([.ref (q 0), .int d, .int bb])).length) Slot.unset).toArray = ls at hl ⊢
  have hl : lv_has ls 4 [(0, .ref (q 0)), (1, .int d), (2, .int bb)] := hl
  refine z_start2 (A := A) (w := (zX k q z)) hP (fun H locs hP hS => ?_)
  clear hD0 hAe
  have hT : trX z = trX z := rfl
  refine lv_iload_n hx hb dX6_type_0 rfl (lv_at hl 1 rfl) ?_
  refine zc0_i (w := (zX k q z)) (va_runS (As := [.int d]) (rest := []) ⟨hx, hb, hml, hown, htb⟩ (c_X6_isDesign l dC dI k d _ ) (va_cwS 1 htb (gzS wmt1_211 wmt1_212 wmt1_1 wmt1_213) rfl rfl rfl (by decide +kernel) ⟨Nat.le_of_ble_eq_true rfl, Nat.le_of_ble_eq_true rfl⟩) (zp0_S hK) rfl rfl hl.1 rfl (lv_room (Nat.le_of_ble_eq_true rfl)) dX6_type_1 ⟨Nat.le_of_ble_eq_true rfl, Nat.le_of_ble_eq_true rfl⟩) hP hS hA (fun r_1 u_2 H locs w_3 hP hS => ?_)
  rcases w_3 with ⟨e_5, h_4⟩ | ⟨e_7, h_6⟩
  · skip
    replace e_5 : r_1 = 1 := e_5
    subst e_5
    replace h_4 : 0 ≤ d.toInt ∧ d.toInt < 4 := h_4
    refine lv_if_eq (tgt := 18) hx hb dX6_type_4 (by decide) (fun c_8 => ?_) (fun c_8 => ?_)
    · skip
      exact absurd c_8 (by decide)
    · skip
      refine lv_iload_n hx hb dX6_type_7 rfl (lv_at hl 2 rfl) ?_
      refine lv_if_lt (tgt := 18) hx hb dX6_type_8 (by decide) (fun c_9 => ?_) (fun c_9 => ?_)
      · skip
        have hc_9 := zb_lt rfl (show (0 : Int32).toInt = 0 by decide) c_9
        refine lv_bipush (v := (-2)) hx hb dX6_type_18 (by decide) ?_
        exact W.iret (v := (-2)) hx hb hr (fun t ht hW => ⟨⟨(-2), z, rfl, ⟨hI, tType_bad (by omega)⟩, ⟨by rw [ht]; exact hP, hDa _⟩⟩, hS.F ht⟩) hS.2.2 dX6_type_20
      · skip
        have hc_9 := zb_nlt rfl (show (0 : Int32).toInt = 0 by decide) c_9
        refine lv_iload_n hx hb dX6_type_11 rfl (lv_at hl 2 rfl) ?_
        refine lv_sipush (v := 255) hx hb dX6_type_12 (by decide) ?_
        refine lv_icmp_le (tgt := 21) hx hb dX6_type_15 (by decide) (fun c_10 => ?_) (fun c_10 => ?_)
        · skip
          have hc_10 := zb_le rfl (show (255 : Int32).toInt = 255 by decide) c_10
          refine lv_aload_n hx hb dX6_type_21 rfl (lv_at hl 0 rfl) ?_
          refine va_get (D := (dC, dI)) (ci := 6) (v := .ref (q 1)) (C := RX6) (T := TX6) (N := 12) hx hb htb inw6 hown hK.1 hP 0 rfl rfl 0 (by decide) (htb _ wmt1_170) (fun _ h9 => h9) rfl dX6_type_22 ?_
          refine lv_iload_n hx hb dX6_type_25 rfl (lv_at hl 1 rfl) ?_
          refine va_aldq (D := (dC, dI)) hx hb hK.1 hP 1 3 rfl rfl (z_in (by omega)) dX6_type_26 ?_
          obtain ⟨d_11, ed_11⟩ : ∃ x : Nat, x = d.toNatClampNeg := ⟨_, rfl⟩
          have hd_11 : d_11 < 4 := by rw [ed_11]; exact z_cl4 (by omega)
          refine z_top (v2 := .ref (qD q d_11 0)) (zgD_at2 ed_11 hd_11) ?_
          refine lv_astore_n (lv' := [(3, .ref (qD q d_11 0)), (0, .ref (q 0)), (1, .int d), (2, .int bb)]) hx hb dX6_type_27 rfl hl (by decide) rfl (fun ls hl => ?_)
          refine lv_aload_n hx hb dX6_type_28 rfl (lv_at hl 0 rfl) ?_
          refine lv_iload_n hx hb dX6_type_29 rfl (lv_at hl 3 rfl) ?_
          refine zcS_i (w := (zX k q z)) (wc := (zD k (qD q d_11) (xD z d_11))) (va_runV (As := [.int bb]) (rest := []) ⟨hx, hb, hml, hown, htb⟩ (c_X1_append l dC dI k (qD q d_11) (xD z d_11) bb _ (XInv_D hd_11 hI)) (cwV 1 htb (gzV wmt1_214 wmt1_215 wmt1_216 wmt1_6 wmt1_217) rfl rfl rfl (by decide +kernel) ⟨Nat.le_of_ble_eq_true rfl, Nat.le_of_ble_eq_true rfl⟩) (zp_V (ci := 1) (q0 := (16 + 3 * d_11)) hK hP (hDa _) [16 + 3 * d_11, 17 + 3 * d_11, 18 + 3 * d_11] (zX_DC hd_11) (zX_ndD hd_11) rfl (zX_D0 hd_11)) rfl rfl hl.1 rfl (lv_room (Nat.le_of_ble_eq_true rfl)) dX6_type_30 ⟨Nat.le_of_ble_eq_true rfl, Nat.le_of_ble_eq_true rfl⟩) hP (hDa _) hS hA [16 + 3 * d_11, 17 + 3 * d_11, 18 + 3 * d_11] (zX_DC hd_11) (fun _ => rfl) (fun r_12 u_13 H locs w_14 hP _ hS => ?_)
          obtain ⟨osz_15, otx_16⟩ := u_13
          obtain ⟨z_17, ez_17⟩ : ∃ x : ZS, x = (xsD z d_11 (sA (sI (xD z d_11) 1 osz_15) 0 otx_16)) := ⟨_, rfl⟩
          have hP : va_P (dC, dI) vwCl (zX k q z_17) H := by rw [ez_17]; exact (zX_Dset hd_11) ▸ hP
          rcases w_14 with ⟨e_21, h_18, h_19, h_20⟩ | ⟨e_25, h_22, h_23, h_24⟩
          · skip
            replace e_21 : r_12 = 1 := e_21
            subst e_21
            replace h_18 : osz_15 = (xD z d_11).1 1 + 1 := h_18
            replace h_19 : ((xD z d_11).1 1).toInt < 60 := h_19
            replace h_20 : otx_16 = upd ((xD z d_11).2.2.1 0) ((xD z d_11).1 1).toNatClampNeg bb := h_20
            have hXD : XR ((xD z d_11).1 1) := XInv_D hd_11 hI
            unfold XR at hXD
            have hsz : osz_15.toInt = ((xD z d_11).1 1).toInt + 1 := z_add h_18 rfl (show (1 : Int32).toInt = 1 by decide) (by omega)
            have hI : XInv z_17 := by rw [ez_17]; exact XInv_xsD hd_11 hI (show 0 ≤ osz_15.toInt ∧ osz_15.toInt ≤ 60 by omega)
            have hT : trX z_17 = ((trX z).1.set (4 + d_11) ((xD z d_11).1 1 + 1), (trX z).2.1, (trX z).2.2.set d_11 (upd ((trX z).2.2.getD d_11 (fun _ => 0)) ((xD z d_11).1 1).toNatClampNeg bb)) := by rw [ez_17, trX_app hd_11, h_18, h_20, tr_upd (show ((xD z d_11).1 1).toNatClampNeg < 60 by have q9 := z_clamp hXD.1; omega), trX_Tg hd_11]
            have hs2 : z_17.1 (10 + 6 * d_11 + 1) = (xD z d_11).1 1 + 1 := by rw [ez_17, xsD_1 hd_11]; exact h_18
            refine lv_if_ne (tgt := 39) hx hb dX6_type_33 (by decide) (fun c_26 => ?_) (fun c_26 => ?_)
            · skip
              refine lv_aload_n hx hb dX6_type_39 rfl (lv_at hl 0 rfl) ?_
              refine lv_aload_n hx hb dX6_type_40 rfl (lv_at hl 1 rfl) ?_
              refine va_get (D := (dC, dI)) (ci := 6) (v := .int (z_17.1 2)) (C := RX6) (T := TX6) (N := 12) hx hb htb inw6 hown hK.1 hP 0 rfl rfl 9 (by decide) (htb _ wmt1_179) (fun _ h9 => h9) rfl dX6_type_41 ?_
              refine lv_topi (fun x_27 ex_27 => ?_)
              have hx_27 : x_27.toInt = (z_17.1 2).toInt := by rw [ex_27]
              refine zcS_v (w := (zX k q z_17)) (wc := (zD k (qD q d_11) (xD z_17 d_11))) (va_runV (As := [.int x_27]) (rest := []) ⟨hx, hb, hml, hown, htb⟩ (c_X1_settle l dC dI k (qD q d_11) (xD z_17 d_11) x_27 _ (XInv_D hd_11 hI) (by have q := hI.2.1.2; omega)) (cwV 1 htb (gzV wmt1_218 wmt1_219 wmt1_220 wmt1_6 wmt1_221) rfl rfl rfl (by decide +kernel) ⟨Nat.le_of_ble_eq_true rfl, Nat.le_of_ble_eq_true rfl⟩) (zp_V (ci := 1) (q0 := (16 + 3 * d_11)) hK hP (hDa _) [16 + 3 * d_11, 17 + 3 * d_11, 18 + 3 * d_11] (zX_DC hd_11) (zX_ndD hd_11) rfl (zX_D0 hd_11)) rfl rfl hl.1 rfl (lv_room (Nat.le_of_ble_eq_true rfl)) dX6_type_44 ⟨Nat.le_of_ble_eq_true rfl, Nat.le_of_ble_eq_true rfl⟩) hP (hDa _) hS hA [16 + 3 * d_11, 17 + 3 * d_11, 18 + 3 * d_11] (zX_DC hd_11) (fun _ => rfl) (fun u_29 H locs w_30 hP _ hS => ?_)
              obtain ⟨oat_31, ofa_32, oy_33, on_34, ou_35, ocm_36, osh_37⟩ := u_29
              obtain ⟨z_38, ez_38⟩ : ∃ x : ZS, x = (xsD z_17 d_11 (sL (sJ (sI (sI (sI (sI (sI (xD z_17 d_11) 0 oat_31) 2 ofa_32) 3 oy_33) 4 on_34) 5 ou_35) 0 ocm_36) 0 osh_37)) := ⟨_, rfl⟩
              have hP : va_P (dC, dI) vwCl (zX k q z_38) H := by rw [ez_38]; exact (zX_Dset hd_11) ▸ hP
              obtain ⟨h_39, h_40⟩ := w_30
              replace h_39 : ofa_32.toInt = pF (bX ((xD z_17 d_11).1 1) ((xD z_17 d_11).2.2.1 0)) ((xD z_17 d_11).1 1).toInt := h_39
              replace h_40 : ofa_32.toInt = -1 → ou_35.toInt = lU (pA (bX ((xD z_17 d_11).1 1) ((xD z_17 d_11).2.2.1 0)) ((xD z_17 d_11).1 1).toInt).2 x_27.toInt ∧ oy_33.toInt = lY (pA (bX ((xD z_17 d_11).1 1) ((xD z_17 d_11).2.2.1 0)) ((xD z_17 d_11).1 1).toInt).2 x_27.toInt 0 ∧ on_34.toInt = lY (pA (bX ((xD z_17 d_11).1 1) ((xD z_17 d_11).2.2.1 0)) ((xD z_17 d_11).1 1).toInt).2 x_27.toInt 1 := h_40
              have hT := (show trX z_38 = tFix (trX z_17) d_11 by rw [ez_38, trX_set hd_11]; exact settle_fix hd_11 ex_27.symm h_39 h_40).trans (congrArg (fun t => tFix t d_11) hT)
              have hs3 : z_38.1 (10 + 6 * d_11 + 1) = (xD z d_11).1 1 + 1 := by rw [ez_38, xsD_1 hd_11]; exact hs2
              have hI : XInv z_38 := by rw [ez_38]; exact XInv_xsD hd_11 hI (XInv_D hd_11 hI)
              refine lv_aload_n hx hb dX6_type_47 rfl (lv_at hl 0 rfl) ?_
              refine va_get (D := (dC, dI)) (ci := 1) (v := .int (z_38.1 (10 + 6 * d_11 + 1))) (C := RX1) (T := TX1) (N := 9) hx hb htb inw1 hown hK.1 hP (16 + 3 * d_11) (zX_D0 hd_11) rfl 4 (by decide) (htb _ wmt1_123) (fun _ h9 => h9) rfl dX6_type_48 ?_
              refine lv_topi (fun x_42 ex_42 => ?_)
              have hx_42 : x_42.toInt = (z_38.1 (10 + 6 * d_11 + 1)).toInt := by rw [ex_42]
              exact W.iret (v := x_42) hx hb hr (fun t ht hW => ⟨⟨x_42, z_38, rfl, ⟨hI, tType_ok (by omega) ed_11 (trX_Dg hd_11) (Int.not_le.mpr h_19) (ex_42.trans hs3) hT⟩, ⟨by rw [ht]; exact hP, hDa _⟩⟩, hS.F ht⟩) hS.2.2 dX6_type_51
            · skip
              exact absurd c_26 (by decide)
          · skip
            replace e_25 : r_12 = 0 := e_25
            subst e_25
            replace h_22 : osz_15 = (xD z d_11).1 1 := h_22
            replace h_23 : 60 ≤ ((xD z d_11).1 1).toInt := h_23
            replace h_24 : otx_16 = (xD z d_11).2.2.1 0 := h_24
            have hXD : XR ((xD z d_11).1 1) := XInv_D hd_11 hI
            unfold XR at hXD
            have hI : XInv z_17 := by rw [ez_17]; exact XInv_xsD hd_11 hI (show XR osz_15 by rw [h_22]; exact hXD)
            have hT : trX z_17 = trX z := by rw [ez_17, trX_app hd_11, h_22, h_24]; exact trX_D hd_11
            refine lv_if_ne (tgt := 39) hx hb dX6_type_33 (by decide) (fun c_43 => ?_) (fun c_43 => ?_)
            · skip
              exact absurd c_43 (by decide)
            · skip
              refine lv_bipush (v := (-4)) hx hb dX6_type_36 (by decide) ?_
              exact W.iret (v := (-4)) hx hb hr (fun t ht hW => ⟨⟨(-4), z_17, rfl, ⟨hI, tType_full (by omega) ed_11 (trX_Dg hd_11) h_23 hT⟩, ⟨by rw [ht]; exact hP, hDa _⟩⟩, hS.F ht⟩) hS.2.2 dX6_type_38
        · skip
          have hc_10 := zb_nle rfl (show (255 : Int32).toInt = 255 by decide) c_10
          refine lv_bipush (v := (-2)) hx hb dX6_type_18 (by decide) ?_
          exact W.iret (v := (-2)) hx hb hr (fun t ht hW => ⟨⟨(-2), z, rfl, ⟨hI, tType_bad (by omega)⟩, ⟨by rw [ht]; exact hP, hDa _⟩⟩, hS.F ht⟩) hS.2.2 dX6_type_20
  · skip
    replace e_7 : r_1 = 0 := e_7
    subst e_7
    replace h_6 : ¬ (0 ≤ d.toInt ∧ d.toInt < 4) := h_6
    refine lv_if_eq (tgt := 18) hx hb dX6_type_4 (by decide) (fun c_44 => ?_) (fun c_44 => ?_)
    · skip
      refine lv_bipush (v := (-2)) hx hb dX6_type_18 (by decide) ?_
      exact W.iret (v := (-2)) hx hb hr (fun t ht hW => ⟨⟨(-2), z, rfl, ⟨hI, tType_bad (by omega)⟩, ⟨by rw [ht]; exact hP, hDa _⟩⟩, hS.F ht⟩) hS.2.2 dX6_type_20
    · skip
      exact absurd (by decide) c_44
set_option maxHeartbeats 4000000 in
set_option maxRecDepth 100000 in
theorem c_X6_wipe (l : Launch) (dC : Nat → ClassId) (dI : Nat → Nat → Nat) (k : Nat → ClassId) (q : Nat → Nat) (z : ZS) (d : Int32) (sz : Nat) (hI : XInv z) : Met l yX6_wipe (wz yX6_wipe cX6_wipe 4 (some .int)) ({ frames := 6, cells := 0, slots := 0, locals := 135 }) (va_Pc [.ref (q 0), .int d] (zPre dC dI k (zTX k) (zX k q z) sz)) (va_Qi (fun (r : Int32) (u : ZS) => (XInv u) ∧ ((r, trX u) = tWipe (trX z) d)) (fun u t => zPost dC dI (va_A (zX k q z) sz) (zX k q u) t) (va_A (zX k q z) sz)) 0 0 (va_A (zX k q z) sz) := by
  refine Met.ofW (cc := cX6_wipe) (maxL := 4) (ret := (some .int)) (by decide) rfl ?_
  intro p e s m args below meth c s₁ B hml hv
  obtain ⟨rfl, hsz, hP, hK, hD0⟩ := hv
  have hx := B.exec
  have hb := B.bytes
  have hr := B.returns
  have hts := atoms_spec (ws := wz yX6_wipe cX6_wipe 4 (some .int)) B.pre
  have htb : ∀ w ∈ zw, w.before _ s = true := fun w h => hts w (List.mem_cons_of_mem _ h)
  have hown : s.vm.findClass RX6 = some m.cls := findClass_of_methodNamed B.named
  have hlocks := B.notSynchronized
  clear hts
  subst hsz
  have hD := hD0.self (sz := s.heap.size)
  generalize hAe : va_A (zX k q z) s.heap.size = A at hD ⊢
  have hA : ∀ q : Nat, s.heap.size ≤ q → A q := fun q h => by rw [← hAe]; exact Or.inr h
  have hDa : ∀ z9 : ZS, va_D A (zX k q z9) := fun z9 => va_D_adr (w := zX k q z) rfl hD
  have hl := lv_entry ([.ref (q 0), .int d]) (n := 4) (Nat.le_of_ble_eq_true rfl)
  rw [lg_entry_eq]
  generalize (lg_sl ([.ref (q 0), .int d]) ++ List.replicate (4 - (lg_sl ([.ref (q 0), .int d])).length) Slot.unset).toArray = ls at hl ⊢
  have hl : lv_has ls 4 [(0, .ref (q 0)), (1, .int d)] := hl
  refine z_start2 (A := A) (w := (zX k q z)) hP (fun H locs hP hS => ?_)
  clear hD0 hAe
  have hT : trX z = trX z := rfl
  refine lv_iload_n hx hb dX6_wipe_0 rfl (lv_at hl 1 rfl) ?_
  refine zc0_i (w := (zX k q z)) (va_runS (As := [.int d]) (rest := []) ⟨hx, hb, hml, hown, htb⟩ (c_X6_isDesign l dC dI k d _ ) (va_cwS 1 htb (gzS wmt1_211 wmt1_212 wmt1_1 wmt1_213) rfl rfl rfl (by decide +kernel) ⟨Nat.le_of_ble_eq_true rfl, Nat.le_of_ble_eq_true rfl⟩) (zp0_S hK) rfl rfl hl.1 rfl (lv_room (Nat.le_of_ble_eq_true rfl)) dX6_wipe_1 ⟨Nat.le_of_ble_eq_true rfl, Nat.le_of_ble_eq_true rfl⟩) hP hS hA (fun r_1 u_2 H locs w_3 hP hS => ?_)
  rcases w_3 with ⟨e_5, h_4⟩ | ⟨e_7, h_6⟩
  · skip
    replace e_5 : r_1 = 1 := e_5
    subst e_5
    replace h_4 : 0 ≤ d.toInt ∧ d.toInt < 4 := h_4
    refine lv_if_ne (tgt := 10) hx hb dX6_wipe_4 (by decide) (fun c_8 => ?_) (fun c_8 => ?_)
    · skip
      refine lv_aload_n hx hb dX6_wipe_10 rfl (lv_at hl 0 rfl) ?_
      refine va_get (D := (dC, dI)) (ci := 6) (v := .ref (q 1)) (C := RX6) (T := TX6) (N := 12) hx hb htb inw6 hown hK.1 hP 0 rfl rfl 0 (by decide) (htb _ wmt1_170) (fun _ h9 => h9) rfl dX6_wipe_11 ?_
      refine lv_iload_n hx hb dX6_wipe_14 rfl (lv_at hl 1 rfl) ?_
      refine va_aldq (D := (dC, dI)) hx hb hK.1 hP 1 3 rfl rfl (z_in (by omega)) dX6_wipe_15 ?_
      obtain ⟨d_9, ed_9⟩ : ∃ x : Nat, x = d.toNatClampNeg := ⟨_, rfl⟩
      have hd_9 : d_9 < 4 := by rw [ed_9]; exact z_cl4 (by omega)
      refine z_top (v2 := .ref (qD q d_9 0)) (zgD_at2 ed_9 hd_9) ?_
      refine lv_astore_n (lv' := [(2, .ref (qD q d_9 0)), (0, .ref (q 0)), (1, .int d)]) hx hb dX6_wipe_16 rfl hl (by decide) rfl (fun ls hl => ?_)
      refine lv_aload_n hx hb dX6_wipe_17 rfl (lv_at hl 0 rfl) ?_
      refine va_get (D := (dC, dI)) (ci := 1) (v := .int (z.1 (10 + 6 * d_9 + 1))) (C := RX1) (T := TX1) (N := 9) hx hb htb inw1 hown hK.1 hP (16 + 3 * d_9) (zX_D0 hd_9) rfl 4 (by decide) (htb _ wmt1_123) (fun _ h9 => h9) rfl dX6_wipe_18 ?_
      refine lv_topi (fun x_10 ex_10 => ?_)
      have hx_10 : x_10.toInt = (z.1 (10 + 6 * d_9 + 1)).toInt := by rw [ex_10]
      refine lv_istore_n (lv' := [(3, .int x_10), (2, .ref (qD q d_9 0)), (0, .ref (q 0)), (1, .int d)]) hx hb dX6_wipe_21 rfl hl (by decide) rfl (fun ls hl => ?_)
      refine lv_aload_n hx hb dX6_wipe_22 rfl (lv_at hl 1 rfl) ?_
      refine zcS_v (w := (zX k q z)) (wc := (zD k (qD q d_9) (xD z d_9))) (va_runV (As := []) (rest := []) ⟨hx, hb, hml, hown, htb⟩ (c_X1_empty l dC dI k (qD q d_9) (xD z d_9) _ ) (cwV 0 htb (gzV wmt2_32 wmt2_33 wmt2_34 wmt1_6 wmt2_35) rfl rfl rfl (by decide +kernel) ⟨Nat.le_of_ble_eq_true rfl, Nat.le_of_ble_eq_true rfl⟩) (zp_V (ci := 1) (q0 := (16 + 3 * d_9)) hK hP (hDa _) [16 + 3 * d_9, 17 + 3 * d_9, 18 + 3 * d_9] (zX_DC hd_9) (zX_ndD hd_9) rfl (zX_D0 hd_9)) rfl rfl hl.1 rfl (lv_room (Nat.le_of_ble_eq_true rfl)) dX6_wipe_23 ⟨Nat.le_of_ble_eq_true rfl, Nat.le_of_ble_eq_true rfl⟩) hP (hDa _) hS hA [16 + 3 * d_9, 17 + 3 * d_9, 18 + 3 * d_9] (zX_DC hd_9) (fun _ => rfl) (fun u_12 H locs w_13 hP _ hS => ?_)
      obtain ⟨osz_14, rfl⟩ : ∃ y, y = u_12 := ⟨_, rfl⟩
      obtain ⟨z_15, ez_15⟩ : ∃ x : ZS, x = (xsD z d_9 (sI (xD z d_9) 1 osz_14)) := ⟨_, rfl⟩
      have hP : va_P (dC, dI) vwCl (zX k q z_15) H := by rw [ez_15]; exact (zX_Dset hd_9) ▸ hP
      have h_16 := w_13
      replace h_16 : osz_14 = 0 := h_16
      have hI : XInv z_15 := by rw [ez_15]; exact XInv_xsD hd_9 hI (show XR osz_14 by rw [h_16]; exact ⟨by decide, by decide⟩)
      have hT : trX z_15 = ((trX z).1.set (4 + d_9) 0, (trX z).2) := by rw [ez_15, trX_emp hd_9, h_16]
      refine lv_aload_n hx hb dX6_wipe_26 rfl (lv_at hl 1 rfl) ?_
      refine lv_aload_n hx hb dX6_wipe_27 rfl (lv_at hl 2 rfl) ?_
      refine va_get (D := (dC, dI)) (ci := 6) (v := .int (z_15.1 2)) (C := RX6) (T := TX6) (N := 12) hx hb htb inw6 hown hK.1 hP 0 rfl rfl 9 (by decide) (htb _ wmt1_179) (fun _ h9 => h9) rfl dX6_wipe_28 ?_
      refine lv_topi (fun x_18 ex_18 => ?_)
      have hx_18 : x_18.toInt = (z_15.1 2).toInt := by rw [ex_18]
      refine zcS_v (w := (zX k q z_15)) (wc := (zD k (qD q d_9) (xD z_15 d_9))) (va_runV (As := [.int x_18]) (rest := []) ⟨hx, hb, hml, hown, htb⟩ (c_X1_settle l dC dI k (qD q d_9) (xD z_15 d_9) x_18 _ (XInv_D hd_9 hI) (by have q := hI.2.1.2; omega)) (cwV 1 htb (gzV wmt1_218 wmt1_219 wmt1_220 wmt1_6 wmt1_221) rfl rfl rfl (by decide +kernel) ⟨Nat.le_of_ble_eq_true rfl, Nat.le_of_ble_eq_true rfl⟩) (zp_V (ci := 1) (q0 := (16 + 3 * d_9)) hK hP (hDa _) [16 + 3 * d_9, 17 + 3 * d_9, 18 + 3 * d_9] (zX_DC hd_9) (zX_ndD hd_9) rfl (zX_D0 hd_9)) rfl rfl hl.1 rfl (lv_room (Nat.le_of_ble_eq_true rfl)) dX6_wipe_31 ⟨Nat.le_of_ble_eq_true rfl, Nat.le_of_ble_eq_true rfl⟩) hP (hDa _) hS hA [16 + 3 * d_9, 17 + 3 * d_9, 18 + 3 * d_9] (zX_DC hd_9) (fun _ => rfl) (fun u_20 H locs w_21 hP _ hS => ?_)
      obtain ⟨oat_22, ofa_23, oy_24, on_25, ou_26, ocm_27, osh_28⟩ := u_20
      obtain ⟨z_29, ez_29⟩ : ∃ x : ZS, x = (xsD z_15 d_9 (sL (sJ (sI (sI (sI (sI (sI (xD z_15 d_9) 0 oat_22) 2 ofa_23) 3 oy_24) 4 on_25) 5 ou_26) 0 ocm_27) 0 osh_28)) := ⟨_, rfl⟩
      have hP : va_P (dC, dI) vwCl (zX k q z_29) H := by rw [ez_29]; exact (zX_Dset hd_9) ▸ hP
      obtain ⟨h_30, h_31⟩ := w_21
      replace h_30 : ofa_23.toInt = pF (bX ((xD z_15 d_9).1 1) ((xD z_15 d_9).2.2.1 0)) ((xD z_15 d_9).1 1).toInt := h_30
      replace h_31 : ofa_23.toInt = -1 → ou_26.toInt = lU (pA (bX ((xD z_15 d_9).1 1) ((xD z_15 d_9).2.2.1 0)) ((xD z_15 d_9).1 1).toInt).2 x_18.toInt ∧ oy_24.toInt = lY (pA (bX ((xD z_15 d_9).1 1) ((xD z_15 d_9).2.2.1 0)) ((xD z_15 d_9).1 1).toInt).2 x_18.toInt 0 ∧ on_25.toInt = lY (pA (bX ((xD z_15 d_9).1 1) ((xD z_15 d_9).2.2.1 0)) ((xD z_15 d_9).1 1).toInt).2 x_18.toInt 1 := h_31
      have hT := (show trX z_29 = tFix (trX z_15) d_9 by rw [ez_29, trX_set hd_9]; exact settle_fix hd_9 ex_18.symm h_30 h_31).trans (congrArg (fun t => tFix t d_9) hT)
      have hI : XInv z_29 := by rw [ez_29]; exact XInv_xsD hd_9 hI (XInv_D hd_9 hI)
      refine lv_iload_n hx hb dX6_wipe_34 rfl (lv_at hl 0 rfl) ?_
      exact W.iret (v := x_10) hx hb hr (fun t ht hW => ⟨⟨x_10, z_29, rfl, ⟨hI, tWipe_ok (by omega) ed_9 ((trX_Dg hd_9).trans ex_10.symm) hT⟩, ⟨by rw [ht]; exact hP, hDa _⟩⟩, hS.F ht⟩) hS.2.2 dX6_wipe_35
    · skip
      exact absurd c_8 (by decide)
  · skip
    replace e_7 : r_1 = 0 := e_7
    subst e_7
    replace h_6 : ¬ (0 ≤ d.toInt ∧ d.toInt < 4) := h_6
    refine lv_if_ne (tgt := 10) hx hb dX6_wipe_4 (by decide) (fun c_33 => ?_) (fun c_33 => ?_)
    · skip
      exact absurd c_33 (by decide)
    · skip
      refine lv_bipush (v := (-2)) hx hb dX6_wipe_7 (by decide) ?_
      exact W.iret (v := (-2)) hx hb hr (fun t ht hW => ⟨⟨(-2), z, rfl, ⟨hI, tWipe_bad (by omega)⟩, ⟨by rw [ht]; exact hP, hDa _⟩⟩, hS.F ht⟩) hS.2.2 dX6_wipe_9
set_option maxHeartbeats 4000000 in
set_option maxRecDepth 100000 in
theorem c_X6_other (l : Launch) (dC : Nat → ClassId) (dI : Nat → Nat → Nat) (k : Nat → ClassId) (q : Nat → Nat) (z : ZS) (v : Int32) (sz : Nat) (hI : XInv z) : Met l yX6_other (wz yX6_other cX6_other 4 (some .int)) ({ frames := 6, cells := 0, slots := 0, locals := 135 }) (va_Pc [.ref (q 0), .int v] (zPre dC dI k (zTX k) (zX k q z) sz)) (va_Qi (fun (r : Int32) (u : ZS) => (XInv u) ∧ ((r, trX u) = tOther (trX z) v)) (fun u t => zPost dC dI (va_A (zX k q z) sz) (zX k q u) t) (va_A (zX k q z) sz)) 0 0 (va_A (zX k q z) sz) := by
  refine Met.ofW (cc := cX6_other) (maxL := 4) (ret := (some .int)) (by decide) rfl ?_
  intro p e s m args below meth c s₁ B hml hv
  obtain ⟨rfl, hsz, hP, hK, hD0⟩ := hv
  have hx := B.exec
  have hb := B.bytes
  have hr := B.returns
  have hts := atoms_spec (ws := wz yX6_other cX6_other 4 (some .int)) B.pre
  have htb : ∀ w ∈ zw, w.before _ s = true := fun w h => hts w (List.mem_cons_of_mem _ h)
  have hown : s.vm.findClass RX6 = some m.cls := findClass_of_methodNamed B.named
  have hlocks := B.notSynchronized
  clear hts
  subst hsz
  have hD := hD0.self (sz := s.heap.size)
  generalize hAe : va_A (zX k q z) s.heap.size = A at hD ⊢
  have hA : ∀ q : Nat, s.heap.size ≤ q → A q := fun q h => by rw [← hAe]; exact Or.inr h
  have hDa : ∀ z9 : ZS, va_D A (zX k q z9) := fun z9 => va_D_adr (w := zX k q z) rfl hD
  have hl := lv_entry ([.ref (q 0), .int v]) (n := 4) (Nat.le_of_ble_eq_true rfl)
  rw [lg_entry_eq]
  generalize (lg_sl ([.ref (q 0), .int v]) ++ List.replicate (4 - (lg_sl ([.ref (q 0), .int v])).length) Slot.unset).toArray = ls at hl ⊢
  have hl : lv_has ls 4 [(0, .ref (q 0)), (1, .int v)] := hl
  refine z_start2 (A := A) (w := (zX k q z)) hP (fun H locs hP hS => ?_)
  clear hD0 hAe
  have hT : trX z = trX z := rfl
  refine lv_iload_n hx hb dX6_other_0 rfl (lv_at hl 1 rfl) ?_
  refine lv_if_lt (tgt := 10) hx hb dX6_other_1 (by decide) (fun c_1 => ?_) (fun c_1 => ?_)
  · skip
    have hc_1 := zb_lt rfl (show (0 : Int32).toInt = 0 by decide) c_1
    refine lv_bipush (v := (-2)) hx hb dX6_other_10 (by decide) ?_
    exact W.iret (v := (-2)) hx hb hr (fun t ht hW => ⟨⟨(-2), z, rfl, ⟨hI, tOther_bad (by omega)⟩, ⟨by rw [ht]; exact hP, hDa _⟩⟩, hS.F ht⟩) hS.2.2 dX6_other_12
  · skip
    have hc_1 := zb_nlt rfl (show (0 : Int32).toInt = 0 by decide) c_1
    refine lv_iload_n hx hb dX6_other_4 rfl (lv_at hl 1 rfl) ?_
    refine lv_bipush (v := 24) hx hb dX6_other_5 (by decide) ?_
    refine lv_icmp_le (tgt := 13) hx hb dX6_other_7 (by decide) (fun c_2 => ?_) (fun c_2 => ?_)
    · skip
      have hc_2 := zb_le rfl (show (24 : Int32).toInt = 24 by decide) c_2
      refine lv_aload_n hx hb dX6_other_13 rfl (lv_at hl 0 rfl) ?_
      refine va_get (D := (dC, dI)) (ci := 6) (v := .int (z.1 2)) (C := RX6) (T := TX6) (N := 12) hx hb htb inw6 hown hK.1 hP 0 rfl rfl 9 (by decide) (htb _ wmt1_179) (fun _ h9 => h9) rfl dX6_other_14 ?_
      refine lv_topi (fun x_3 ex_3 => ?_)
      have hx_3 : x_3.toInt = (z.1 2).toInt := by rw [ex_3]
      refine lv_istore_n (lv' := [(2, .int x_3), (0, .ref (q 0)), (1, .int v)]) hx hb dX6_other_17 rfl hl (by decide) rfl (fun ls hl => ?_)
      refine lv_aload_n hx hb dX6_other_18 rfl (lv_at hl 1 rfl) ?_
      refine lv_iload_n hx hb dX6_other_19 rfl (lv_at hl 2 rfl) ?_
      refine va_put (D := (dC, dI)) (ci := 6) (v := .int v) (ty := .int) (C := RX6) (T := TX6) (N := 12) hx hb htb inw6 tyX6 tyX6_ok nmX6 hown hK.1 hP (hDa _) hS 0 rfl rfl 9 (by decide) (htb _ wmt1_179) (fun _ h9 => h9) rfl (by decide +kernel) rfl rfl (Nat.le_of_ble_eq_true rfl) dX6_other_20 (fun H locs hP _ hS => ?_)
      have hP : va_P (dC, dI) vwCl (zX k q (sI z 2 v)) H := hP
      refine lv_iconst (v := 0) hx hb dX6_other_23 (by decide) ?_
      refine lv_istore_n (lv' := [(3, .int 0), (2, .int x_3), (0, .ref (q 0)), (1, .int v)]) hx hb dX6_other_24 rfl hl (by decide) rfl (fun ls hl => ?_)
      obtain ⟨i, ei⟩ : ∃ x : Int32, 0 = x := ⟨_, rfl⟩
      obtain ⟨z1, ez1⟩ : ∃ x : ZS, (sI z 2 v) = x := ⟨_, rfl⟩
      have hv25 : (0 ≤ i.toInt ∧ i.toInt ≤ 4) ∧ (XInv z1) ∧ (trX z1 = tFixs ((trX z).1.set 2 v, (trX z).2) i.toNatClampNeg) ∧ (z1.1 2 = v) := by subst ei ez1; exact ⟨(by decide), ⟨hI.1, ⟨hI.2.1.1, (show 0 ≤ v.toInt ∧ v.toInt ≤ 24 by omega)⟩, hI.2.2⟩, rfl, rfl⟩
      replace hl : lv_has ls 4 [(3, .int i), (2, .int x_3), (0, .ref (q 0)), (1, .int v)] := by subst ei ez1; exact hl
      replace hP : va_P (dC, dI) vwCl (zX k q z1) H := by subst ez1; exact hP
      clear ei ez1
      obtain ⟨mm25, hm25⟩ : ∃ mm : Nat, mm = (4 - i.toInt).toNat := ⟨_, rfl⟩
      refine z_cut2 hP hS hl ?_
      clear hl hP
      intro H locs ls hP hS hl
      induction mm25 using Nat.strongRecOn generalizing i z1 H locs ls with
      | _ mm25 ih25 =>
        obtain ⟨hi, hI1, hT1, hv2⟩ := hv25
        have hI := hI1
        have hT := hT1
        refine lv_iload_n hx hb dX6_other_25 rfl (lv_at hl 0 rfl) ?_
        refine lv_iconst (v := 4) hx hb dX6_other_26 (by decide) ?_
        refine lv_icmp_ge (tgt := 46) hx hb dX6_other_27 (by decide) (fun c_4 => ?_) (fun c_4 => ?_)
        · skip
          have hc_4 := zb_le (show (4 : Int32).toInt = 4 by decide) rfl c_4
          refine lv_iload_n hx hb dX6_other_46 rfl (lv_at hl 1 rfl) ?_
          exact W.iret (v := x_3) hx hb hr (fun t ht hW => ⟨⟨x_3, z1, rfl, ⟨hI, tOther_ok (by omega) ex_3 (by rw [hT, show i.toNatClampNeg = 4 by have q := z_clamp hi.1; omega])⟩, ⟨by rw [ht]; exact hP, hDa _⟩⟩, hS.F ht⟩) hS.2.2 dX6_other_47
        · skip
          have hc_4 := zb_nle (show (4 : Int32).toInt = 4 by decide) rfl c_4
          refine lv_aload_n hx hb dX6_other_30 rfl (lv_at hl 2 rfl) ?_
          refine va_get (D := (dC, dI)) (ci := 6) (v := .ref (q 1)) (C := RX6) (T := TX6) (N := 12) hx hb htb inw6 hown hK.1 hP 0 rfl rfl 0 (by decide) (htb _ wmt1_170) (fun _ h9 => h9) rfl dX6_other_31 ?_
          refine lv_iload_n hx hb dX6_other_34 rfl (lv_at hl 0 rfl) ?_
          refine va_aldq (D := (dC, dI)) hx hb hK.1 hP 1 3 rfl rfl (z_in (by omega)) dX6_other_35 ?_
          obtain ⟨d_5, ed_5⟩ : ∃ x : Nat, x = i.toNatClampNeg := ⟨_, rfl⟩
          have hd_5 : d_5 < 4 := by rw [ed_5]; exact z_cl4 (by omega)
          refine z_top (v2 := .ref (qD q d_5 0)) (zgD_at2 ed_5 hd_5) ?_
          refine lv_iload_n hx hb dX6_other_36 rfl (lv_at hl 3 rfl) ?_
          refine zcS_v (w := (zX k q z1)) (wc := (zD k (qD q d_5) (xD z1 d_5))) (va_runV (As := [.int v]) (rest := []) ⟨hx, hb, hml, hown, htb⟩ (c_X1_settle l dC dI k (qD q d_5) (xD z1 d_5) v _ (XInv_D hd_5 hI) (show 0 ≤ v.toInt ∧ v.toInt ≤ 24 by omega)) (cwV 1 htb (gzV wmt1_218 wmt1_219 wmt1_220 wmt1_6 wmt1_221) rfl rfl rfl (by decide +kernel) ⟨Nat.le_of_ble_eq_true rfl, Nat.le_of_ble_eq_true rfl⟩) (zp_V (ci := 1) (q0 := (16 + 3 * d_5)) hK hP (hDa _) [16 + 3 * d_5, 17 + 3 * d_5, 18 + 3 * d_5] (zX_DC hd_5) (zX_ndD hd_5) rfl (zX_D0 hd_5)) rfl rfl hl.1 rfl (lv_room (Nat.le_of_ble_eq_true rfl)) dX6_other_37 ⟨Nat.le_of_ble_eq_true rfl, Nat.le_of_ble_eq_true rfl⟩) hP (hDa _) hS hA [16 + 3 * d_5, 17 + 3 * d_5, 18 + 3 * d_5] (zX_DC hd_5) (fun _ => rfl) (fun u_7 H locs w_8 hP _ hS => ?_)
          obtain ⟨oat_9, ofa_10, oy_11, on_12, ou_13, ocm_14, osh_15⟩ := u_7
          obtain ⟨z_16, ez_16⟩ : ∃ x : ZS, x = (xsD z1 d_5 (sL (sJ (sI (sI (sI (sI (sI (xD z1 d_5) 0 oat_9) 2 ofa_10) 3 oy_11) 4 on_12) 5 ou_13) 0 ocm_14) 0 osh_15)) := ⟨_, rfl⟩
          have hP : va_P (dC, dI) vwCl (zX k q z_16) H := by rw [ez_16]; exact (zX_Dset hd_5) ▸ hP
          obtain ⟨h_17, h_18⟩ := w_8
          replace h_17 : ofa_10.toInt = pF (bX ((xD z1 d_5).1 1) ((xD z1 d_5).2.2.1 0)) ((xD z1 d_5).1 1).toInt := h_17
          replace h_18 : ofa_10.toInt = -1 → ou_13.toInt = lU (pA (bX ((xD z1 d_5).1 1) ((xD z1 d_5).2.2.1 0)) ((xD z1 d_5).1 1).toInt).2 v.toInt ∧ oy_11.toInt = lY (pA (bX ((xD z1 d_5).1 1) ((xD z1 d_5).2.2.1 0)) ((xD z1 d_5).1 1).toInt).2 v.toInt 0 ∧ on_12.toInt = lY (pA (bX ((xD z1 d_5).1 1) ((xD z1 d_5).2.2.1 0)) ((xD z1 d_5).1 1).toInt).2 v.toInt 1 := h_18
          have hT := (show trX z_16 = tFix (trX z1) d_5 by rw [ez_16, trX_set hd_5]; exact settle_fix hd_5 hv2 h_17 h_18).trans (congrArg (fun t => tFix t d_5) hT)
          have hI : XInv z_16 := by rw [ez_16]; exact XInv_xsD hd_5 hI (XInv_D hd_5 hI)
          obtain ⟨x_20, ex_20⟩ : ∃ y : Int32, y = i + 1 := ⟨_, rfl⟩
          have hx_20 : x_20.toInt = i.toInt + 1 := z_add ex_20 rfl (show (1 : Int32).toInt = 1 by decide) (by omega)
          refine lv_iinc (v := x_20) (lv' := [(3, .int x_20), (2, .int x_3), (0, .ref (q 0)), (1, .int v)]) hx hb dX6_other_40 hl (k := 0) rfl (by rw [ex_20]; rfl) (by decide) rfl (fun ls hl => ?_)
          refine lv_goto (tgt := 25) hx hb dX6_other_43 (by decide) ?_
          exact ih25 ((4 - x_20.toInt).toNat) (by omega) x_20 z_16 ⟨(show 0 ≤ x_20.toInt ∧ x_20.toInt ≤ 4 by omega), hI, (tFixs_s hT ed_5 hx_20 hi.1), (by rw [ez_16, xsD_lo (by decide)]; exact hv2)⟩ rfl H locs ls hP hS (lv_sub hl [0, 1, 2, 3] rfl)
    · skip
      have hc_2 := zb_nle rfl (show (24 : Int32).toInt = 24 by decide) c_2
      refine lv_bipush (v := (-2)) hx hb dX6_other_10 (by decide) ?_
      exact W.iret (v := (-2)) hx hb hr (fun t ht hW => ⟨⟨(-2), z, rfl, ⟨hI, tOther_bad (by omega)⟩, ⟨by rw [ht]; exact hP, hDa _⟩⟩, hS.F ht⟩) hS.2.2 dX6_other_12
set_option maxHeartbeats 4000000 in
set_option maxRecDepth 100000 in
theorem c_X6_pass (l : Launch) (dC : Nat → ClassId) (dI : Nat → Nat → Nat) (k : Nat → ClassId) (q : Nat → Nat) (z : ZS) (n : Int32) (sz : Nat) (hI : XInv z) : Met l yX6_pass (wz yX6_pass cX6_pass 2 (some .int)) ({ frames := 0, cells := 0, slots := 0, locals := 0 }) (va_Pc [.ref (q 0), .int n] (zPre dC dI k (zTX k) (zX k q z) sz)) (va_Qi (fun (r : Int32) (u : ZS) => (XInv u) ∧ ((r, trX u) = tPass (trX z) n)) (fun u t => zPost dC dI (va_A (zX k q z) sz) (zX k q u) t) (va_A (zX k q z) sz)) 0 0 (va_A (zX k q z) sz) := by
  refine Met.ofW (cc := cX6_pass) (maxL := 2) (ret := (some .int)) (by decide) rfl ?_
  intro p e s m args below meth c s₁ B hml hv
  obtain ⟨rfl, hsz, hP, hK, hD0⟩ := hv
  have hx := B.exec
  have hb := B.bytes
  have hr := B.returns
  have hts := atoms_spec (ws := wz yX6_pass cX6_pass 2 (some .int)) B.pre
  have htb : ∀ w ∈ zw, w.before _ s = true := fun w h => hts w (List.mem_cons_of_mem _ h)
  have hown : s.vm.findClass RX6 = some m.cls := findClass_of_methodNamed B.named
  have hlocks := B.notSynchronized
  clear hts
  subst hsz
  have hD := hD0.self (sz := s.heap.size)
  generalize hAe : va_A (zX k q z) s.heap.size = A at hD ⊢
  have hA : ∀ q : Nat, s.heap.size ≤ q → A q := fun q h => by rw [← hAe]; exact Or.inr h
  have hDa : ∀ z9 : ZS, va_D A (zX k q z9) := fun z9 => va_D_adr (w := zX k q z) rfl hD
  have hl := lv_entry ([.ref (q 0), .int n]) (n := 2) (Nat.le_of_ble_eq_true rfl)
  rw [lg_entry_eq]
  generalize (lg_sl ([.ref (q 0), .int n]) ++ List.replicate (2 - (lg_sl ([.ref (q 0), .int n])).length) Slot.unset).toArray = ls at hl ⊢
  have hl : lv_has ls 2 [(0, .ref (q 0)), (1, .int n)] := hl
  refine z_start2 (A := A) (w := (zX k q z)) hP (fun H locs hP hS => ?_)
  clear hD0 hAe
  have hT : trX z = trX z := rfl
  have hd0 := hI.2.1
  refine lv_iload_n hx hb dX6_pass_0 rfl (lv_at hl 1 rfl) ?_
  refine lv_iconst (v := 1) hx hb dX6_pass_1 (by decide) ?_
  refine lv_icmp_lt (tgt := 23) hx hb dX6_pass_2 (by decide) (fun c_1 => ?_) (fun c_1 => ?_)
  · skip
    have hc_1 := zb_lt rfl (show (1 : Int32).toInt = 1 by decide) c_1
    refine lv_bipush (v := (-2)) hx hb dX6_pass_23 (by decide) ?_
    exact W.iret (v := (-2)) hx hb hr (fun t ht hW => ⟨⟨(-2), z, rfl, ⟨hI, tPass_bad (x := z.1 0) rfl (by omega)⟩, ⟨by rw [ht]; exact hP, hDa _⟩⟩, hS.F ht⟩) hS.2.2 dX6_pass_25
  · skip
    have hc_1 := zb_nlt rfl (show (1 : Int32).toInt = 1 by decide) c_1
    refine lv_iload_n hx hb dX6_pass_5 rfl (lv_at hl 1 rfl) ?_
    refine lv_bipush (v := 100) hx hb dX6_pass_6 (by decide) ?_
    refine lv_icmp_gt (tgt := 23) hx hb dX6_pass_8 (by decide) (fun c_2 => ?_) (fun c_2 => ?_)
    · skip
      have hc_2 := zb_lt (show (100 : Int32).toInt = 100 by decide) rfl c_2
      refine lv_bipush (v := (-2)) hx hb dX6_pass_23 (by decide) ?_
      exact W.iret (v := (-2)) hx hb hr (fun t ht hW => ⟨⟨(-2), z, rfl, ⟨hI, tPass_bad (x := z.1 0) rfl (by omega)⟩, ⟨by rw [ht]; exact hP, hDa _⟩⟩, hS.F ht⟩) hS.2.2 dX6_pass_25
    · skip
      have hc_2 := zb_nlt (show (100 : Int32).toInt = 100 by decide) rfl c_2
      refine lv_aload_n hx hb dX6_pass_11 rfl (lv_at hl 0 rfl) ?_
      refine va_get (D := (dC, dI)) (ci := 6) (v := .int (z.1 0)) (C := RX6) (T := TX6) (N := 12) hx hb htb inw6 hown hK.1 hP 0 rfl rfl 7 (by decide) (htb _ wmt1_177) (fun _ h9 => h9) rfl dX6_pass_12 ?_
      refine lv_topi (fun x_3 ex_3 => ?_)
      have hx_3 : x_3.toInt = (z.1 0).toInt := by rw [ex_3]
      refine lv_iload_n hx hb dX6_pass_15 rfl (lv_at hl 1 rfl) ?_
      refine lv_iadd hx hb dX6_pass_16 ?_
      refine lv_topi (fun x_4 ex_4 => ?_)
      have hx_4 := z_add ex_4 rfl rfl (by omega)
      refine lv_sipush (v := 399) hx hb dX6_pass_17 (by decide) ?_
      refine lv_icmp_le (tgt := 26) hx hb dX6_pass_20 (by decide) (fun c_5 => ?_) (fun c_5 => ?_)
      · skip
        have hc_5 := zb_le rfl (show (399 : Int32).toInt = 399 by decide) c_5
        refine lv_aload_n hx hb dX6_pass_26 rfl (lv_at hl 0 rfl) ?_
        refine lv_dup hx hb dX6_pass_27 rfl ?_
        refine va_get (D := (dC, dI)) (ci := 6) (v := .int (z.1 0)) (C := RX6) (T := TX6) (N := 12) hx hb htb inw6 hown hK.1 hP 0 rfl rfl 7 (by decide) (htb _ wmt1_177) (fun _ h9 => h9) rfl dX6_pass_28 ?_
        refine z_top (v2 := .int x_3) (congrArg Value.int ex_3.symm) ?_
        refine lv_iload_n hx hb dX6_pass_31 rfl (lv_at hl 1 rfl) ?_
        refine lv_iadd hx hb dX6_pass_32 ?_
        refine lv_topi (fun x_6 ex_6 => ?_)
        have hx_6 := z_add ex_6 rfl rfl (by omega)
        refine va_put (D := (dC, dI)) (ci := 6) (v := .int x_6) (ty := .int) (C := RX6) (T := TX6) (N := 12) hx hb htb inw6 tyX6 tyX6_ok nmX6 hown hK.1 hP (hDa _) hS 0 rfl rfl 7 (by decide) (htb _ wmt1_177) (fun _ h9 => h9) rfl (by decide +kernel) rfl rfl (Nat.le_of_ble_eq_true rfl) dX6_pass_33 (fun H locs hP _ hS => ?_)
        have hP : va_P (dC, dI) vwCl (zX k q (sI z 0 x_6)) H := hP
        refine lv_aload_n hx hb dX6_pass_36 rfl (lv_at hl 0 rfl) ?_
        refine va_get (D := (dC, dI)) (ci := 6) (v := .int x_6) (C := RX6) (T := TX6) (N := 12) hx hb htb inw6 hown hK.1 hP 0 rfl rfl 7 (by decide) (htb _ wmt1_177) (fun _ h9 => h9) rfl dX6_pass_37 ?_
        exact W.iret (v := x_6) hx hb hr (fun t ht hW => ⟨⟨x_6, (sI z 0 x_6), rfl, ⟨⟨hI.1, ⟨(show 0 ≤ x_6.toInt ∧ x_6.toInt ≤ 399 by omega), hI.2.1.2⟩, hI.2.2⟩, tPass_ok (x := z.1 0) rfl (by omega) (by rw [ex_6, ex_3]) rfl⟩, ⟨by rw [ht]; exact hP, hDa _⟩⟩, hS.F ht⟩) hS.2.2 dX6_pass_40
      · skip
        have hc_5 := zb_nle rfl (show (399 : Int32).toInt = 399 by decide) c_5
        refine lv_bipush (v := (-2)) hx hb dX6_pass_23 (by decide) ?_
        exact W.iret (v := (-2)) hx hb hr (fun t ht hW => ⟨⟨(-2), z, rfl, ⟨hI, tPass_bad (x := z.1 0) rfl (by omega)⟩, ⟨by rw [ht]; exact hP, hDa _⟩⟩, hS.F ht⟩) hS.2.2 dX6_pass_25
set_option maxHeartbeats 4000000 in
set_option maxRecDepth 100000 in
theorem c_X6_group (l : Launch) (dC : Nat → ClassId) (dI : Nat → Nat → Nat) (k : Nat → ClassId) (q : Nat → Nat) (z : ZS) (pe : Int32) (g : Int32) (sz : Nat) (hI : XInv z) : Met l yX6_group (wz yX6_group cX6_group 4 (some .int)) ({ frames := 1, cells := 0, slots := 0, locals := 20 }) (va_Pc [.ref (q 0), .int pe, .int g] (zPre dC dI k (zTX k) (zX k q z) sz)) (va_Qi (fun (r : Int32) (u : ZS) => (XInv u) ∧ ((r, trX u) = tGroup (trX z) pe g)) (fun u t => zPost dC dI (va_A (zX k q z) sz) (zX k q u) t) (va_A (zX k q z) sz)) 0 0 (va_A (zX k q z) sz) := by
  refine Met.ofW (cc := cX6_group) (maxL := 4) (ret := (some .int)) (by decide) rfl ?_
  intro p e s m args below meth c s₁ B hml hv
  obtain ⟨rfl, hsz, hP, hK, hD0⟩ := hv
  have hx := B.exec
  have hb := B.bytes
  have hr := B.returns
  have hts := atoms_spec (ws := wz yX6_group cX6_group 4 (some .int)) B.pre
  have htb : ∀ w ∈ zw, w.before _ s = true := fun w h => hts w (List.mem_cons_of_mem _ h)
  have hown : s.vm.findClass RX6 = some m.cls := findClass_of_methodNamed B.named
  have hlocks := B.notSynchronized
  clear hts
  subst hsz
  have hD := hD0.self (sz := s.heap.size)
  generalize hAe : va_A (zX k q z) s.heap.size = A at hD ⊢
  have hA : ∀ q : Nat, s.heap.size ≤ q → A q := fun q h => by rw [← hAe]; exact Or.inr h
  have hDa : ∀ z9 : ZS, va_D A (zX k q z9) := fun z9 => va_D_adr (w := zX k q z) rfl hD
  have hl := lv_entry ([.ref (q 0), .int pe, .int g]) (n := 4) (Nat.le_of_ble_eq_true rfl)
  rw [lg_entry_eq]
  generalize (lg_sl ([.ref (q 0), .int pe, .int g]) ++ List.replicate (4 - (lg_sl ([.ref (q 0), .int pe, .int g])).length) Slot.unset).toArray = ls at hl ⊢
  have hl : lv_has ls 4 [(0, .ref (q 0)), (1, .int pe), (2, .int g)] := hl
  refine z_start2 (A := A) (w := (zX k q z)) hP (fun H locs hP hS => ?_)
  clear hD0 hAe
  have hT : trX z = trX z := rfl
  refine lv_iload_n hx hb dX6_group_0 rfl (lv_at hl 1 rfl) ?_
  refine zc0_i (w := (zX k q z)) (va_runS (As := [.int pe]) (rest := []) ⟨hx, hb, hml, hown, htb⟩ (c_X6_isPerson l dC dI k pe _ ) (va_cwS 1 htb (gzS wmt2_77 wmt2_78 wmt1_1 wmt2_79) rfl rfl rfl (by decide +kernel) ⟨Nat.le_of_ble_eq_true rfl, Nat.le_of_ble_eq_true rfl⟩) (zp0_S hK) rfl rfl hl.1 rfl (lv_room (Nat.le_of_ble_eq_true rfl)) dX6_group_1 ⟨Nat.le_of_ble_eq_true rfl, Nat.le_of_ble_eq_true rfl⟩) hP hS hA (fun r_1 u_2 H locs w_3 hP hS => ?_)
  rcases w_3 with ⟨e_5, h_4⟩ | ⟨e_7, h_6⟩
  · skip
    replace e_5 : r_1 = 1 := e_5
    subst e_5
    replace h_4 : 0 ≤ pe.toInt ∧ pe.toInt < 24 := h_4
    refine lv_if_eq (tgt := 14) hx hb dX6_group_4 (by decide) (fun c_8 => ?_) (fun c_8 => ?_)
    · skip
      exact absurd c_8 (by decide)
    · skip
      refine lv_iload_n hx hb dX6_group_7 rfl (lv_at hl 2 rfl) ?_
      refine zc0_i (w := (zX k q z)) (va_runS (As := [.int g]) (rest := []) ⟨hx, hb, hml, hown, htb⟩ (c_X6_isGroup l dC dI k g _ ) (va_cwS 1 htb (gzS wmt2_80 wmt2_81 wmt1_1 wmt2_82) rfl rfl rfl (by decide +kernel) ⟨Nat.le_of_ble_eq_true rfl, Nat.le_of_ble_eq_true rfl⟩) (zp0_S hK) rfl rfl hl.1 rfl (lv_room (Nat.le_of_ble_eq_true rfl)) dX6_group_8 ⟨Nat.le_of_ble_eq_true rfl, Nat.le_of_ble_eq_true rfl⟩) hP hS hA (fun r_9 u_10 H locs w_11 hP hS => ?_)
      rcases w_11 with ⟨e_13, h_12⟩ | ⟨e_15, h_14⟩
      · skip
        replace e_13 : r_9 = 1 := e_13
        subst e_13
        replace h_12 : 0 ≤ g.toInt ∧ g.toInt < 4 := h_12
        refine lv_if_ne (tgt := 17) hx hb dX6_group_11 (by decide) (fun c_16 => ?_) (fun c_16 => ?_)
        · skip
          refine lv_aload_n hx hb dX6_group_17 rfl (lv_at hl 0 rfl) ?_
          refine va_get (D := (dC, dI)) (ci := 6) (v := .ref (q 3)) (C := RX6) (T := TX6) (N := 12) hx hb htb inw6 hown hK.1 hP 0 rfl rfl 2 (by decide) (htb _ wmt1_172) (fun _ h9 => h9) rfl dX6_group_18 ?_
          refine lv_iload_n hx hb dX6_group_21 rfl (lv_at hl 1 rfl) ?_
          refine va_iald (D := (dC, dI)) hx hb hK.1 hP 3 0 rfl rfl (z_in (by omega)) dX6_group_22 ?_
          refine lv_topi (fun x_17 ex_17 => ?_)
          refine lv_istore_n (lv' := [(3, .int x_17), (0, .ref (q 0)), (1, .int pe), (2, .int g)]) hx hb dX6_group_23 rfl hl (by decide) rfl (fun ls hl => ?_)
          refine lv_aload_n hx hb dX6_group_24 rfl (lv_at hl 1 rfl) ?_
          refine va_get (D := (dC, dI)) (ci := 6) (v := .ref (q 3)) (C := RX6) (T := TX6) (N := 12) hx hb htb inw6 hown hK.1 hP 0 rfl rfl 2 (by decide) (htb _ wmt1_172) (fun _ h9 => h9) rfl dX6_group_25 ?_
          refine lv_iload_n hx hb dX6_group_28 rfl (lv_at hl 2 rfl) ?_
          refine lv_iload_n hx hb dX6_group_29 rfl (lv_at hl 3 rfl) ?_
          refine va_iast (D := (dC, dI)) hx hb hK.1 hP (hDa _) hS 3 0 rfl rfl (z_in (by omega)) dX6_group_30 (fun H locs hP _ hS => ?_)
          obtain ⟨f_18, ef_18⟩ : ∃ x : Nat → Int32, x = upd (z.2.2.1 0) pe.toNatClampNeg g := ⟨_, rfl⟩
          have hP : va_P (dC, dI) vwCl (zX k q (sA z 0 f_18)) H := by rw [ef_18]; exact hP
          refine lv_iload_n hx hb dX6_group_31 rfl (lv_at hl 0 rfl) ?_
          exact W.iret (v := x_17) hx hb hr (fun t ht hW => ⟨⟨x_17, (sA z 0 f_18), rfl, ⟨hI, tGroup_ok (by omega) ex_17 ef_18 rfl⟩, ⟨by rw [ht]; exact hP, hDa _⟩⟩, hS.F ht⟩) hS.2.2 dX6_group_32
        · skip
          exact absurd c_16 (by decide)
      · skip
        replace e_15 : r_9 = 0 := e_15
        subst e_15
        replace h_14 : ¬ (0 ≤ g.toInt ∧ g.toInt < 4) := h_14
        refine lv_if_ne (tgt := 17) hx hb dX6_group_11 (by decide) (fun c_19 => ?_) (fun c_19 => ?_)
        · skip
          exact absurd c_19 (by decide)
        · skip
          refine lv_bipush (v := (-2)) hx hb dX6_group_14 (by decide) ?_
          exact W.iret (v := (-2)) hx hb hr (fun t ht hW => ⟨⟨(-2), z, rfl, ⟨hI, tGroup_bad (by omega)⟩, ⟨by rw [ht]; exact hP, hDa _⟩⟩, hS.F ht⟩) hS.2.2 dX6_group_16
  · skip
    replace e_7 : r_1 = 0 := e_7
    subst e_7
    replace h_6 : ¬ (0 ≤ pe.toInt ∧ pe.toInt < 24) := h_6
    refine lv_if_eq (tgt := 14) hx hb dX6_group_4 (by decide) (fun c_20 => ?_) (fun c_20 => ?_)
    · skip
      refine lv_bipush (v := (-2)) hx hb dX6_group_14 (by decide) ?_
      exact W.iret (v := (-2)) hx hb hr (fun t ht hW => ⟨⟨(-2), z, rfl, ⟨hI, tGroup_bad (by omega)⟩, ⟨by rw [ht]; exact hP, hDa _⟩⟩, hS.F ht⟩) hS.2.2 dX6_group_16
    · skip
      exact absurd (by decide) c_20
set_option maxHeartbeats 4000000 in
set_option maxRecDepth 100000 in
theorem c_X6_asOf (l : Launch) (dC : Nat → ClassId) (dI : Nat → Nat → Nat) (k : Nat → ClassId) (q : Nat → Nat) (z : ZS) (v : Int32) (sz : Nat) (hI : XInv z) : Met l yX6_asOf (wz yX6_asOf cX6_asOf 3 (some .int)) ({ frames := 0, cells := 0, slots := 0, locals := 0 }) (va_Pc [.ref (q 0), .int v] (zPre dC dI k (zTX k) (zX k q z) sz)) (va_Qi (fun (r : Int32) (u : ZS) => (XInv u) ∧ ((r, trX u) = tAsOf (trX z) v)) (fun u t => zPost dC dI (va_A (zX k q z) sz) (zX k q u) t) (va_A (zX k q z) sz)) 0 0 (va_A (zX k q z) sz) := by
  refine Met.ofW (cc := cX6_asOf) (maxL := 3) (ret := (some .int)) (by decide) rfl ?_
  intro p e s m args below meth c s₁ B hml hv
  obtain ⟨rfl, hsz, hP, hK, hD0⟩ := hv
  have hx := B.exec
  have hb := B.bytes
  have hr := B.returns
  have hts := atoms_spec (ws := wz yX6_asOf cX6_asOf 3 (some .int)) B.pre
  have htb : ∀ w ∈ zw, w.before _ s = true := fun w h => hts w (List.mem_cons_of_mem _ h)
  have hown : s.vm.findClass RX6 = some m.cls := findClass_of_methodNamed B.named
  have hlocks := B.notSynchronized
  clear hts
  subst hsz
  have hD := hD0.self (sz := s.heap.size)
  generalize hAe : va_A (zX k q z) s.heap.size = A at hD ⊢
  have hA : ∀ q : Nat, s.heap.size ≤ q → A q := fun q h => by rw [← hAe]; exact Or.inr h
  have hDa : ∀ z9 : ZS, va_D A (zX k q z9) := fun z9 => va_D_adr (w := zX k q z) rfl hD
  have hl := lv_entry ([.ref (q 0), .int v]) (n := 3) (Nat.le_of_ble_eq_true rfl)
  rw [lg_entry_eq]
  generalize (lg_sl ([.ref (q 0), .int v]) ++ List.replicate (3 - (lg_sl ([.ref (q 0), .int v])).length) Slot.unset).toArray = ls at hl ⊢
  have hl : lv_has ls 3 [(0, .ref (q 0)), (1, .int v)] := hl
  refine z_start2 (A := A) (w := (zX k q z)) hP (fun H locs hP hS => ?_)
  clear hD0 hAe
  have hT : trX z = trX z := rfl
  refine lv_iload_n hx hb dX6_asOf_0 rfl (lv_at hl 1 rfl) ?_
  refine lv_iconst (v := (-1)) hx hb dX6_asOf_1 (by decide) ?_
  refine lv_icmp_eq (tgt := 20) hx hb dX6_asOf_2 (by decide) (fun c_1 => ?_) (fun c_1 => ?_)
  · skip
    have hc_1 := zb_eq rfl (show ((-1) : Int32).toInt = (-1) by decide) c_1
    refine lv_aload_n hx hb dX6_asOf_20 rfl (lv_at hl 0 rfl) ?_
    refine va_get (D := (dC, dI)) (ci := 6) (v := .int (z.1 1)) (C := RX6) (T := TX6) (N := 12) hx hb htb inw6 hown hK.1 hP 0 rfl rfl 8 (by decide) (htb _ wmt1_178) (fun _ h9 => h9) rfl dX6_asOf_21 ?_
    refine lv_topi (fun x_2 ex_2 => ?_)
    have hx_2 : x_2.toInt = (z.1 1).toInt := by rw [ex_2]
    refine lv_istore_n (lv' := [(2, .int x_2), (0, .ref (q 0)), (1, .int v)]) hx hb dX6_asOf_24 rfl hl (by decide) rfl (fun ls hl => ?_)
    refine lv_aload_n hx hb dX6_asOf_25 rfl (lv_at hl 1 rfl) ?_
    refine lv_iload_n hx hb dX6_asOf_26 rfl (lv_at hl 2 rfl) ?_
    refine va_put (D := (dC, dI)) (ci := 6) (v := .int v) (ty := .int) (C := RX6) (T := TX6) (N := 12) hx hb htb inw6 tyX6 tyX6_ok nmX6 hown hK.1 hP (hDa _) hS 0 rfl rfl 8 (by decide) (htb _ wmt1_178) (fun _ h9 => h9) rfl (by decide +kernel) rfl rfl (Nat.le_of_ble_eq_true rfl) dX6_asOf_27 (fun H locs hP _ hS => ?_)
    have hP : va_P (dC, dI) vwCl (zX k q (sI z 1 v)) H := hP
    refine lv_iload_n hx hb dX6_asOf_30 rfl (lv_at hl 0 rfl) ?_
    exact W.iret (v := x_2) hx hb hr (fun t ht hW => ⟨⟨x_2, (sI z 1 v), rfl, ⟨hI, tAsOf_ok (x := z.1 0) rfl (by omega) ex_2 rfl⟩, ⟨by rw [ht]; exact hP, hDa _⟩⟩, hS.F ht⟩) hS.2.2 dX6_asOf_31
  · skip
    have hc_1 := zb_ne rfl (show ((-1) : Int32).toInt = (-1) by decide) c_1
    refine lv_iload_n hx hb dX6_asOf_5 rfl (lv_at hl 1 rfl) ?_
    refine lv_if_lt (tgt := 17) hx hb dX6_asOf_6 (by decide) (fun c_3 => ?_) (fun c_3 => ?_)
    · skip
      have hc_3 := zb_lt rfl (show (0 : Int32).toInt = 0 by decide) c_3
      refine lv_bipush (v := (-2)) hx hb dX6_asOf_17 (by decide) ?_
      exact W.iret (v := (-2)) hx hb hr (fun t ht hW => ⟨⟨(-2), z, rfl, ⟨hI, tAsOf_bad (x := z.1 0) rfl (by omega)⟩, ⟨by rw [ht]; exact hP, hDa _⟩⟩, hS.F ht⟩) hS.2.2 dX6_asOf_19
    · skip
      have hc_3 := zb_nlt rfl (show (0 : Int32).toInt = 0 by decide) c_3
      refine lv_iload_n hx hb dX6_asOf_9 rfl (lv_at hl 1 rfl) ?_
      refine lv_aload_n hx hb dX6_asOf_10 rfl (lv_at hl 0 rfl) ?_
      refine va_get (D := (dC, dI)) (ci := 6) (v := .int (z.1 0)) (C := RX6) (T := TX6) (N := 12) hx hb htb inw6 hown hK.1 hP 0 rfl rfl 7 (by decide) (htb _ wmt1_177) (fun _ h9 => h9) rfl dX6_asOf_11 ?_
      refine lv_topi (fun x_4 ex_4 => ?_)
      have hx_4 : x_4.toInt = (z.1 0).toInt := by rw [ex_4]
      refine lv_icmp_le (tgt := 20) hx hb dX6_asOf_14 (by decide) (fun c_5 => ?_) (fun c_5 => ?_)
      · skip
        have hc_5 := zb_le rfl rfl c_5
        refine lv_aload_n hx hb dX6_asOf_20 rfl (lv_at hl 0 rfl) ?_
        refine va_get (D := (dC, dI)) (ci := 6) (v := .int (z.1 1)) (C := RX6) (T := TX6) (N := 12) hx hb htb inw6 hown hK.1 hP 0 rfl rfl 8 (by decide) (htb _ wmt1_178) (fun _ h9 => h9) rfl dX6_asOf_21 ?_
        refine lv_topi (fun x_6 ex_6 => ?_)
        have hx_6 : x_6.toInt = (z.1 1).toInt := by rw [ex_6]
        refine lv_istore_n (lv' := [(2, .int x_6), (0, .ref (q 0)), (1, .int v)]) hx hb dX6_asOf_24 rfl hl (by decide) rfl (fun ls hl => ?_)
        refine lv_aload_n hx hb dX6_asOf_25 rfl (lv_at hl 1 rfl) ?_
        refine lv_iload_n hx hb dX6_asOf_26 rfl (lv_at hl 2 rfl) ?_
        refine va_put (D := (dC, dI)) (ci := 6) (v := .int v) (ty := .int) (C := RX6) (T := TX6) (N := 12) hx hb htb inw6 tyX6 tyX6_ok nmX6 hown hK.1 hP (hDa _) hS 0 rfl rfl 8 (by decide) (htb _ wmt1_178) (fun _ h9 => h9) rfl (by decide +kernel) rfl rfl (Nat.le_of_ble_eq_true rfl) dX6_asOf_27 (fun H locs hP _ hS => ?_)
        have hP : va_P (dC, dI) vwCl (zX k q (sI z 1 v)) H := hP
        refine lv_iload_n hx hb dX6_asOf_30 rfl (lv_at hl 0 rfl) ?_
        exact W.iret (v := x_6) hx hb hr (fun t ht hW => ⟨⟨x_6, (sI z 1 v), rfl, ⟨hI, tAsOf_ok (x := z.1 0) rfl (by omega) ex_6 rfl⟩, ⟨by rw [ht]; exact hP, hDa _⟩⟩, hS.F ht⟩) hS.2.2 dX6_asOf_31
      · skip
        have hc_5 := zb_nle rfl rfl c_5
        refine lv_bipush (v := (-2)) hx hb dX6_asOf_17 (by decide) ?_
        exact W.iret (v := (-2)) hx hb hr (fun t ht hW => ⟨⟨(-2), z, rfl, ⟨hI, tAsOf_bad (x := z.1 0) rfl (by omega)⟩, ⟨by rw [ht]; exact hP, hDa _⟩⟩, hS.F ht⟩) hS.2.2 dX6_asOf_19
set_option maxHeartbeats 4000000 in
set_option maxRecDepth 100000 in
theorem c_X6_limit (l : Launch) (dC : Nat → ClassId) (dI : Nat → Nat → Nat) (k : Nat → ClassId) (q : Nat → Nat) (z : ZS) (v : Int32) (sz : Nat) (hI : XInv z) : Met l yX6_limit (wz yX6_limit cX6_limit 3 (some .int)) ({ frames := 0, cells := 0, slots := 0, locals := 0 }) (va_Pc [.ref (q 0), .int v] (zPre dC dI k (zTX k) (zX k q z) sz)) (va_Qi (fun (r : Int32) (u : ZS) => (XInv u) ∧ ((r, trX u) = tLimit (trX z) v)) (fun u t => zPost dC dI (va_A (zX k q z) sz) (zX k q u) t) (va_A (zX k q z) sz)) 0 0 (va_A (zX k q z) sz) := by
  refine Met.ofW (cc := cX6_limit) (maxL := 3) (ret := (some .int)) (by decide) rfl ?_
  intro p e s m args below meth c s₁ B hml hv
  obtain ⟨rfl, hsz, hP, hK, hD0⟩ := hv
  have hx := B.exec
  have hb := B.bytes
  have hr := B.returns
  have hts := atoms_spec (ws := wz yX6_limit cX6_limit 3 (some .int)) B.pre
  have htb : ∀ w ∈ zw, w.before _ s = true := fun w h => hts w (List.mem_cons_of_mem _ h)
  have hown : s.vm.findClass RX6 = some m.cls := findClass_of_methodNamed B.named
  have hlocks := B.notSynchronized
  clear hts
  subst hsz
  have hD := hD0.self (sz := s.heap.size)
  generalize hAe : va_A (zX k q z) s.heap.size = A at hD ⊢
  have hA : ∀ q : Nat, s.heap.size ≤ q → A q := fun q h => by rw [← hAe]; exact Or.inr h
  have hDa : ∀ z9 : ZS, va_D A (zX k q z9) := fun z9 => va_D_adr (w := zX k q z) rfl hD
  have hl := lv_entry ([.ref (q 0), .int v]) (n := 3) (Nat.le_of_ble_eq_true rfl)
  rw [lg_entry_eq]
  generalize (lg_sl ([.ref (q 0), .int v]) ++ List.replicate (3 - (lg_sl ([.ref (q 0), .int v])).length) Slot.unset).toArray = ls at hl ⊢
  have hl : lv_has ls 3 [(0, .ref (q 0)), (1, .int v)] := hl
  refine z_start2 (A := A) (w := (zX k q z)) hP (fun H locs hP hS => ?_)
  clear hD0 hAe
  have hT : trX z = trX z := rfl
  refine lv_iload_n hx hb dX6_limit_0 rfl (lv_at hl 1 rfl) ?_
  refine lv_iconst (v := 1) hx hb dX6_limit_1 (by decide) ?_
  refine lv_icmp_lt (tgt := 12) hx hb dX6_limit_2 (by decide) (fun c_1 => ?_) (fun c_1 => ?_)
  · skip
    have hc_1 := zb_lt rfl (show (1 : Int32).toInt = 1 by decide) c_1
    refine lv_bipush (v := (-2)) hx hb dX6_limit_12 (by decide) ?_
    exact W.iret (v := (-2)) hx hb hr (fun t ht hW => ⟨⟨(-2), z, rfl, ⟨hI, tLimit_bad (by omega)⟩, ⟨by rw [ht]; exact hP, hDa _⟩⟩, hS.F ht⟩) hS.2.2 dX6_limit_14
  · skip
    have hc_1 := zb_nlt rfl (show (1 : Int32).toInt = 1 by decide) c_1
    refine lv_iload_n hx hb dX6_limit_5 rfl (lv_at hl 1 rfl) ?_
    refine lv_sipush (v := 1000) hx hb dX6_limit_6 (by decide) ?_
    refine lv_icmp_le (tgt := 15) hx hb dX6_limit_9 (by decide) (fun c_2 => ?_) (fun c_2 => ?_)
    · skip
      have hc_2 := zb_le rfl (show (1000 : Int32).toInt = 1000 by decide) c_2
      refine lv_aload_n hx hb dX6_limit_15 rfl (lv_at hl 0 rfl) ?_
      refine va_get (D := (dC, dI)) (ci := 6) (v := .int (z.1 3)) (C := RX6) (T := TX6) (N := 12) hx hb htb inw6 hown hK.1 hP 0 rfl rfl 10 (by decide) (htb _ wmt1_180) (fun _ h9 => h9) rfl dX6_limit_16 ?_
      refine lv_topi (fun x_3 ex_3 => ?_)
      have hx_3 : x_3.toInt = (z.1 3).toInt := by rw [ex_3]
      refine lv_istore_n (lv' := [(2, .int x_3), (0, .ref (q 0)), (1, .int v)]) hx hb dX6_limit_19 rfl hl (by decide) rfl (fun ls hl => ?_)
      refine lv_aload_n hx hb dX6_limit_20 rfl (lv_at hl 1 rfl) ?_
      refine lv_iload_n hx hb dX6_limit_21 rfl (lv_at hl 2 rfl) ?_
      refine va_put (D := (dC, dI)) (ci := 6) (v := .int v) (ty := .int) (C := RX6) (T := TX6) (N := 12) hx hb htb inw6 tyX6 tyX6_ok nmX6 hown hK.1 hP (hDa _) hS 0 rfl rfl 10 (by decide) (htb _ wmt1_180) (fun _ h9 => h9) rfl (by decide +kernel) rfl rfl (Nat.le_of_ble_eq_true rfl) dX6_limit_22 (fun H locs hP _ hS => ?_)
      have hP : va_P (dC, dI) vwCl (zX k q (sI z 3 v)) H := hP
      refine lv_iload_n hx hb dX6_limit_25 rfl (lv_at hl 0 rfl) ?_
      exact W.iret (v := x_3) hx hb hr (fun t ht hW => ⟨⟨x_3, (sI z 3 v), rfl, ⟨hI, tLimit_ok (by omega) ex_3 rfl⟩, ⟨by rw [ht]; exact hP, hDa _⟩⟩, hS.F ht⟩) hS.2.2 dX6_limit_26
    · skip
      have hc_2 := zb_nle rfl (show (1000 : Int32).toInt = 1000 by decide) c_2
      refine lv_bipush (v := (-2)) hx hb dX6_limit_12 (by decide) ?_
      exact W.iret (v := (-2)) hx hb hr (fun t ht hW => ⟨⟨(-2), z, rfl, ⟨hI, tLimit_bad (by omega)⟩, ⟨by rw [ht]; exact hP, hDa _⟩⟩, hS.F ht⟩) hS.2.2 dX6_limit_14
set_option maxHeartbeats 4000000 in
set_option maxRecDepth 100000 in
theorem c_X6_answer (l : Launch) (dC : Nat → ClassId) (dI : Nat → Nat → Nat) (k : Nat → ClassId) (q : Nat → Nat) (z : ZS) (pe : Int32) (d : Int32) (y : Int32) (sz : Nat) (hI : XInv z) : Met l yX6_answer (wz yX6_answer cX6_answer 4 (some .int)) ({ frames := 1, cells := 0, slots := 0, locals := 24 }) (va_Pc [.ref (q 0), .int pe, .int d, .int y] (zPre dC dI k (zTX k) (zX k q z) sz)) (va_Qi (fun (r : Int32) (u : ZS) => (XInv u) ∧ ((r, trX u) = tAns (trX z) pe d y)) (fun u t => zPost dC dI (va_A (zX k q z) sz) (zX k q u) t) (va_A (zX k q z) sz)) 0 0 (va_A (zX k q z) sz) := by
  refine Met.ofW (cc := cX6_answer) (maxL := 4) (ret := (some .int)) (by decide) rfl ?_
  intro p e s m args below meth c s₁ B hml hv
  obtain ⟨rfl, hsz, hP, hK, hD0⟩ := hv
  have hx := B.exec
  have hb := B.bytes
  have hr := B.returns
  have hts := atoms_spec (ws := wz yX6_answer cX6_answer 4 (some .int)) B.pre
  have htb : ∀ w ∈ zw, w.before _ s = true := fun w h => hts w (List.mem_cons_of_mem _ h)
  have hown : s.vm.findClass RX6 = some m.cls := findClass_of_methodNamed B.named
  have hlocks := B.notSynchronized
  clear hts
  subst hsz
  have hD := hD0.self (sz := s.heap.size)
  generalize hAe : va_A (zX k q z) s.heap.size = A at hD ⊢
  have hA : ∀ q : Nat, s.heap.size ≤ q → A q := fun q h => by rw [← hAe]; exact Or.inr h
  have hDa : ∀ z9 : ZS, va_D A (zX k q z9) := fun z9 => va_D_adr (w := zX k q z) rfl hD
  have hl := lv_entry ([.ref (q 0), .int pe, .int d, .int y]) (n := 4) (Nat.le_of_ble_eq_true rfl)
  rw [lg_entry_eq]
  generalize (lg_sl ([.ref (q 0), .int pe, .int d, .int y]) ++ List.replicate (4 - (lg_sl ([.ref (q 0), .int pe, .int d, .int y])).length) Slot.unset).toArray = ls at hl ⊢
  have hl : lv_has ls 4 [(0, .ref (q 0)), (1, .int pe), (2, .int d), (3, .int y)] := hl
  refine z_start2 (A := A) (w := (zX k q z)) hP (fun H locs hP hS => ?_)
  clear hD0 hAe
  have hT : trX z = trX z := rfl
  have hIo := hI
  refine lv_iload_n hx hb dX6_answer_0 rfl (lv_at hl 1 rfl) ?_
  refine zc0_i (w := (zX k q z)) (va_runS (As := [.int pe]) (rest := []) ⟨hx, hb, hml, hown, htb⟩ (c_X6_isPerson l dC dI k pe _ ) (va_cwS 1 htb (gzS wmt2_77 wmt2_78 wmt1_1 wmt2_79) rfl rfl rfl (by decide +kernel) ⟨Nat.le_of_ble_eq_true rfl, Nat.le_of_ble_eq_true rfl⟩) (zp0_S hK) rfl rfl hl.1 rfl (lv_room (Nat.le_of_ble_eq_true rfl)) dX6_answer_1 ⟨Nat.le_of_ble_eq_true rfl, Nat.le_of_ble_eq_true rfl⟩) hP hS hA (fun r_1 u_2 H locs w_3 hP hS => ?_)
  rcases w_3 with ⟨e_5, h_4⟩ | ⟨e_7, h_6⟩
  · skip
    replace e_5 : r_1 = 1 := e_5
    subst e_5
    replace h_4 : 0 ≤ pe.toInt ∧ pe.toInt < 24 := h_4
    refine lv_if_eq (tgt := 21) hx hb dX6_answer_4 (by decide) (fun c_8 => ?_) (fun c_8 => ?_)
    · skip
      exact absurd c_8 (by decide)
    · skip
      refine lv_iload_n hx hb dX6_answer_7 rfl (lv_at hl 2 rfl) ?_
      refine zc0_i (w := (zX k q z)) (va_runS (As := [.int d]) (rest := []) ⟨hx, hb, hml, hown, htb⟩ (c_X6_isDesign l dC dI k d _ ) (va_cwS 1 htb (gzS wmt1_211 wmt1_212 wmt1_1 wmt1_213) rfl rfl rfl (by decide +kernel) ⟨Nat.le_of_ble_eq_true rfl, Nat.le_of_ble_eq_true rfl⟩) (zp0_S hK) rfl rfl hl.1 rfl (lv_room (Nat.le_of_ble_eq_true rfl)) dX6_answer_8 ⟨Nat.le_of_ble_eq_true rfl, Nat.le_of_ble_eq_true rfl⟩) hP hS hA (fun r_9 u_10 H locs w_11 hP hS => ?_)
      rcases w_11 with ⟨e_13, h_12⟩ | ⟨e_15, h_14⟩
      · skip
        replace e_13 : r_9 = 1 := e_13
        subst e_13
        replace h_12 : 0 ≤ d.toInt ∧ d.toInt < 4 := h_12
        refine lv_if_eq (tgt := 21) hx hb dX6_answer_11 (by decide) (fun c_16 => ?_) (fun c_16 => ?_)
        · skip
          exact absurd c_16 (by decide)
        · skip
          refine lv_iload_n hx hb dX6_answer_14 rfl (lv_at hl 3 rfl) ?_
          refine zc0_i (w := (zX k q z)) (va_runS (As := [.int y]) (rest := []) ⟨hx, hb, hml, hown, htb⟩ (c_X6_isEither l dC dI k y _ ) (va_cwS 1 htb (gzS wmt2_48 wmt2_49 wmt1_1 wmt2_50) rfl rfl rfl (by decide +kernel) ⟨Nat.le_of_ble_eq_true rfl, Nat.le_of_ble_eq_true rfl⟩) (zp0_S hK) rfl rfl hl.1 rfl (lv_room (Nat.le_of_ble_eq_true rfl)) dX6_answer_15 ⟨Nat.le_of_ble_eq_true rfl, Nat.le_of_ble_eq_true rfl⟩) hP hS hA (fun r_17 u_18 H locs w_19 hP hS => ?_)
          rcases w_19 with ⟨e_21, h_20⟩ | ⟨e_23, h_22⟩
          · skip
            replace e_21 : r_17 = 1 := e_21
            subst e_21
            replace h_20 : 0 ≤ y.toInt ∧ y.toInt < 2 := h_20
            refine lv_if_ne (tgt := 24) hx hb dX6_answer_18 (by decide) (fun c_24 => ?_) (fun c_24 => ?_)
            · skip
              refine lv_aload_n hx hb dX6_answer_24 rfl (lv_at hl 0 rfl) ?_
              refine va_get (D := (dC, dI)) (ci := 6) (v := .ref (q 1)) (C := RX6) (T := TX6) (N := 12) hx hb htb inw6 hown hK.1 hP 0 rfl rfl 0 (by decide) (htb _ wmt1_170) (fun _ h9 => h9) rfl dX6_answer_25 ?_
              refine lv_iload_n hx hb dX6_answer_28 rfl (lv_at hl 2 rfl) ?_
              refine va_aldq (D := (dC, dI)) hx hb hK.1 hP 1 3 rfl rfl (z_in (by omega)) dX6_answer_29 ?_
              obtain ⟨d_25, ed_25⟩ : ∃ x : Nat, x = d.toNatClampNeg := ⟨_, rfl⟩
              have hd_25 : d_25 < 4 := by rw [ed_25]; exact z_cl4 (by omega)
              refine z_top (v2 := .ref (qD q d_25 0)) (zgD_at2 ed_25 hd_25) ?_
              refine zcS_i (w := (zX k q z)) (wc := (zD k (qD q d_25) (xD z d_25))) (va_runV (As := []) (rest := []) ⟨hx, hb, hml, hown, htb⟩ (c_X1_isFaulty l dC dI k (qD q d_25) (xD z d_25) _ ) (cwV 0 htb (gzV wmt2_55 wmt2_20 wmt2_21 wmt1_6 wmt2_22) rfl rfl rfl (by decide +kernel) ⟨Nat.le_of_ble_eq_true rfl, Nat.le_of_ble_eq_true rfl⟩) (zp_V (ci := 1) (q0 := (16 + 3 * d_25)) hK hP (hDa _) [16 + 3 * d_25, 17 + 3 * d_25, 18 + 3 * d_25] (zX_DC hd_25) (zX_ndD hd_25) rfl (zX_D0 hd_25)) rfl rfl hl.1 rfl (lv_room (Nat.le_of_ble_eq_true rfl)) dX6_answer_30 ⟨Nat.le_of_ble_eq_true rfl, Nat.le_of_ble_eq_true rfl⟩) hP (hDa _) hS hA [16 + 3 * d_25, 17 + 3 * d_25, 18 + 3 * d_25] (zX_DC hd_25) (fun _ => rfl) (fun r_26 u_27 H locs w_28 hP _ hS => ?_)
              have hP : va_P (dC, dI) vwCl (zX k q z) H := (zX_Dkeep hd_25) ▸ hP
              rcases w_28 with ⟨e_30, h_29⟩ | ⟨e_32, h_31⟩
              · skip
                replace e_30 : r_26 = 1 := e_30
                subst e_30
                replace h_29 : ¬ ((xD z d_25).1 2).toInt = -1 := h_29
                have hfa : ¬ (z.1 (10 + 6 * d_25 + 2)).toInt = -1 := h_29
                refine lv_if_eq (tgt := 39) hx hb dX6_answer_33 (by decide) (fun c_33 => ?_) (fun c_33 => ?_)
                · skip
                  exact absurd c_33 (by decide)
                · skip
                  refine lv_bipush (v := (-3)) hx hb dX6_answer_36 (by decide) ?_
                  exact W.iret (v := (-3)) hx hb hr (fun t ht hW => ⟨⟨(-3), z, rfl, ⟨hI, tAns_f (by omega) ed_25 (trX_Fg hd_25) hfa hT⟩, ⟨by rw [ht]; exact hP, hDa _⟩⟩, hS.F ht⟩) hS.2.2 dX6_answer_38
              · skip
                replace e_32 : r_26 = 0 := e_32
                subst e_32
                replace h_31 : ((xD z d_25).1 2).toInt = -1 := h_31
                have hfa : (z.1 (10 + 6 * d_25 + 2)).toInt = -1 := h_31
                have hlx := tL_X (z := z) hd_25 hfa
                refine lv_if_eq (tgt := 39) hx hb dX6_answer_33 (by decide) (fun c_34 => ?_) (fun c_34 => ?_)
                · skip
                  refine lv_aload_n hx hb dX6_answer_39 rfl (lv_at hl 0 rfl) ?_
                  refine va_get (D := (dC, dI)) (ci := 6) (v := .ref (q 4)) (C := RX6) (T := TX6) (N := 12) hx hb htb inw6 hown hK.1 hP 0 rfl rfl 3 (by decide) (htb _ wmt1_173) (fun _ h9 => h9) rfl dX6_answer_40 ?_
                  refine lv_iload_n hx hb dX6_answer_43 rfl (lv_at hl 1 rfl) ?_
                  refine lv_iload_n hx hb dX6_answer_44 rfl (lv_at hl 2 rfl) ?_
                  refine lv_iload_n hx hb dX6_answer_45 rfl (lv_at hl 3 rfl) ?_
                  refine lv_aload_n hx hb dX6_answer_46 rfl (lv_at hl 0 rfl) ?_
                  refine va_get (D := (dC, dI)) (ci := 6) (v := .int (z.1 0)) (C := RX6) (T := TX6) (N := 12) hx hb htb inw6 hown hK.1 hP 0 rfl rfl 7 (by decide) (htb _ wmt1_177) (fun _ h9 => h9) rfl dX6_answer_47 ?_
                  refine lv_topi (fun x_35 ex_35 => ?_)
                  have hx_35 : x_35.toInt = (z.1 0).toInt := by rw [ex_35]
                  refine zcS_i (w := (zX k q z)) (wc := (zA k (qof q 4) (xA z))) (va_runV (As := [.int pe, .int d, .int y, .int x_35]) (rest := []) ⟨hx, hb, hml, hown, htb⟩ (c_X0_tell l dC dI k (qof q 4) (xA z) pe d y x_35 _ hI.1 (by omega) (by omega)) (cwV 4 htb (gzV wmt2_87 wmt2_88 wmt2_89 wmt1_2 wmt2_90) rfl rfl rfl (by decide +kernel) ⟨Nat.le_of_ble_eq_true rfl, Nat.le_of_ble_eq_true rfl⟩) (zp_V (ci := 0) (q0 := 4) hK hP (hDa _) [4, 5, 6, 7, 8, 9, 10, 11] rfl (by decide) rfl rfl) rfl rfl hl.1 rfl (lv_room (Nat.le_of_ble_eq_true rfl)) dX6_answer_50 ⟨Nat.le_of_ble_eq_true rfl, Nat.le_of_ble_eq_true rfl⟩) hP (hDa _) hS hA [4, 5, 6, 7, 8, 9, 10, 11] rfl (fun _ => rfl) (fun r_36 u_37 H locs w_38 hP _ hS => ?_)
                  have hP : va_P (dC, dI) vwCl (zX k q (sA (sA (sA (sA (sA (sA (sA (sI (sI z 5 (u_37.1 0)) 6 (u_37.1 1)) 1 (u_37.2.2.1 0)) 2 (u_37.2.2.1 1)) 3 (u_37.2.2.1 2)) 4 (u_37.2.2.1 3)) 5 (u_37.2.2.1 4)) 6 (u_37.2.2.1 5)) 7 (u_37.2.2.1 6))) H := hP
                  rcases w_38 with ⟨e_43, h_39, h_40, h_41, h_42⟩ | ⟨h_44, h_45, h_46, h_47, h_48⟩
                  · skip
                    replace e_43 : r_36 = (-4) := e_43
                    subst e_43
                    replace h_39 : P6 (u_37.1 1) (u_37.2.2.1 0) (u_37.2.2.1 1) := h_39
                    replace h_40 : 120 ≤ ((xA z).1 1).toInt := h_40
                    replace h_41 : u_37.1 1 = (xA z).1 1 := h_41
                    replace h_42 : u_37.2.2.1 4 = (xA z).2.2.1 4 := h_42
                    have hI : XInv (sA (sA (sA (sA (sA (sA (sA (sI (sI z 5 (u_37.1 0)) 6 (u_37.1 1)) 1 (u_37.2.2.1 0)) 2 (u_37.2.2.1 1)) 3 (u_37.2.2.1 2)) 4 (u_37.2.2.1 3)) 5 (u_37.2.2.1 4)) 6 (u_37.2.2.1 5)) 7 (u_37.2.2.1 6)) := ⟨h_39, hI.2⟩
                    have hTA : trX (sA (sA (sA (sA (sA (sA (sA (sI (sI z 5 (u_37.1 0)) 6 (u_37.1 1)) 1 (u_37.2.2.1 0)) 2 (u_37.2.2.1 1)) 3 (u_37.2.2.1 2)) 4 (u_37.2.2.1 3)) 5 (u_37.2.2.1 4)) 6 (u_37.2.2.1 5)) 7 (u_37.2.2.1 6)) = ((trX z).1.set 32 ((xA z).1 1), (trX z).2.1, (trX z).2.2.set 4 ((xA z).2.2.1 4)) := (show trX (sA (sA (sA (sA (sA (sA (sA (sI (sI z 5 (u_37.1 0)) 6 (u_37.1 1)) 1 (u_37.2.2.1 0)) 2 (u_37.2.2.1 1)) 3 (u_37.2.2.1 2)) 4 (u_37.2.2.1 3)) 5 (u_37.2.2.1 4)) 6 (u_37.2.2.1 5)) 7 (u_37.2.2.1 6)) = ((trX z).1.set 32 (u_37.1 1), (trX z).2.1, (trX z).2.2.set 4 (u_37.2.2.1 4)) from rfl).trans (by rw [h_41, h_42])
                    have htl : ((-4 : Int32), trX (sA (sA (sA (sA (sA (sA (sA (sI (sI z 5 (u_37.1 0)) 6 (u_37.1 1)) 1 (u_37.2.2.1 0)) 2 (u_37.2.2.1 1)) 3 (u_37.2.2.1 2)) 4 (u_37.2.2.1 3)) 5 (u_37.2.2.1 4)) 6 (u_37.2.2.1 5)) 7 (u_37.2.2.1 6))) = tTell (trX z) := tTell_full rfl h_40 (hTA.trans trX_AK)
                    have hful : 120 ≤ (tNA (trX z)).toInt := h_40
                    exact W.iret (v := (-4)) hx hb hr (fun t ht hW => ⟨⟨(-4), (sA (sA (sA (sA (sA (sA (sA (sI (sI z 5 (u_37.1 0)) 6 (u_37.1 1)) 1 (u_37.2.2.1 0)) 2 (u_37.2.2.1 1)) 3 (u_37.2.2.1 2)) 4 (u_37.2.2.1 3)) 5 (u_37.2.2.1 4)) 6 (u_37.2.2.1 5)) 7 (u_37.2.2.1 6)), rfl, ⟨hI, tAns_ok (by omega) ed_25 (trX_Fg hd_25) hfa htl⟩, ⟨by rw [ht]; exact hP, hDa _⟩⟩, hS.F ht⟩) hS.2.2 dX6_answer_53
                  · skip
                    replace h_44 : P6 (u_37.1 1) (u_37.2.2.1 0) (u_37.2.2.1 1) := h_44
                    replace h_45 : ¬ 120 ≤ ((xA z).1 1).toInt := h_45
                    replace h_46 : r_36 = (xA z).1 1 := h_46
                    replace h_47 : u_37.1 1 = (xA z).1 1 + 1 := h_47
                    replace h_48 : u_37.2.2.1 4 = upd ((xA z).2.2.1 4) ((xA z).1 1).toNatClampNeg (-1) := h_48
                    have hI : XInv (sA (sA (sA (sA (sA (sA (sA (sI (sI z 5 (u_37.1 0)) 6 (u_37.1 1)) 1 (u_37.2.2.1 0)) 2 (u_37.2.2.1 1)) 3 (u_37.2.2.1 2)) 4 (u_37.2.2.1 3)) 5 (u_37.2.2.1 4)) 6 (u_37.2.2.1 5)) 7 (u_37.2.2.1 6)) := ⟨h_44, hI.2⟩
                    have hTA : trX (sA (sA (sA (sA (sA (sA (sA (sI (sI z 5 (u_37.1 0)) 6 (u_37.1 1)) 1 (u_37.2.2.1 0)) 2 (u_37.2.2.1 1)) 3 (u_37.2.2.1 2)) 4 (u_37.2.2.1 3)) 5 (u_37.2.2.1 4)) 6 (u_37.2.2.1 5)) 7 (u_37.2.2.1 6)) = ((trX z).1.set 32 ((xA z).1 1 + 1), (trX z).2.1, (trX z).2.2.set 4 (upd ((xA z).2.2.1 4) ((xA z).1 1).toNatClampNeg (-1))) := (show trX (sA (sA (sA (sA (sA (sA (sA (sI (sI z 5 (u_37.1 0)) 6 (u_37.1 1)) 1 (u_37.2.2.1 0)) 2 (u_37.2.2.1 1)) 3 (u_37.2.2.1 2)) 4 (u_37.2.2.1 3)) 5 (u_37.2.2.1 4)) 6 (u_37.2.2.1 5)) 7 (u_37.2.2.1 6)) = ((trX z).1.set 32 (u_37.1 1), (trX z).2.1, (trX z).2.2.set 4 (u_37.2.2.1 4)) from rfl).trans (by rw [h_47, h_48])
                    have htl : (r_36, trX (sA (sA (sA (sA (sA (sA (sA (sI (sI z 5 (u_37.1 0)) 6 (u_37.1 1)) 1 (u_37.2.2.1 0)) 2 (u_37.2.2.1 1)) 3 (u_37.2.2.1 2)) 4 (u_37.2.2.1 3)) 5 (u_37.2.2.1 4)) 6 (u_37.2.2.1 5)) 7 (u_37.2.2.1 6))) = tTell (trX z) := tTell_ok rfl h_45 h_46 hTA
                    have hful : ¬ 120 ≤ (tNA (trX z)).toInt := h_45
                    have hrn : 0 ≤ r_36.toInt := by rw [h_46]; exact (show P6 _ _ _ from hIo.1).1
                    exact W.iret (v := r_36) hx hb hr (fun t ht hW => ⟨⟨r_36, (sA (sA (sA (sA (sA (sA (sA (sI (sI z 5 (u_37.1 0)) 6 (u_37.1 1)) 1 (u_37.2.2.1 0)) 2 (u_37.2.2.1 1)) 3 (u_37.2.2.1 2)) 4 (u_37.2.2.1 3)) 5 (u_37.2.2.1 4)) 6 (u_37.2.2.1 5)) 7 (u_37.2.2.1 6)), rfl, ⟨hI, tAns_ok (by omega) ed_25 (trX_Fg hd_25) hfa htl⟩, ⟨by rw [ht]; exact hP, hDa _⟩⟩, hS.F ht⟩) hS.2.2 dX6_answer_53
                · skip
                  exact absurd (by decide) c_34
            · skip
              exact absurd c_24 (by decide)
          · skip
            replace e_23 : r_17 = 0 := e_23
            subst e_23
            replace h_22 : ¬ (0 ≤ y.toInt ∧ y.toInt < 2) := h_22
            refine lv_if_ne (tgt := 24) hx hb dX6_answer_18 (by decide) (fun c_50 => ?_) (fun c_50 => ?_)
            · skip
              exact absurd c_50 (by decide)
            · skip
              refine lv_bipush (v := (-2)) hx hb dX6_answer_21 (by decide) ?_
              exact W.iret (v := (-2)) hx hb hr (fun t ht hW => ⟨⟨(-2), z, rfl, ⟨hI, tAns_bad (by omega) hT⟩, ⟨by rw [ht]; exact hP, hDa _⟩⟩, hS.F ht⟩) hS.2.2 dX6_answer_23
      · skip
        replace e_15 : r_9 = 0 := e_15
        subst e_15
        replace h_14 : ¬ (0 ≤ d.toInt ∧ d.toInt < 4) := h_14
        refine lv_if_eq (tgt := 21) hx hb dX6_answer_11 (by decide) (fun c_51 => ?_) (fun c_51 => ?_)
        · skip
          refine lv_bipush (v := (-2)) hx hb dX6_answer_21 (by decide) ?_
          exact W.iret (v := (-2)) hx hb hr (fun t ht hW => ⟨⟨(-2), z, rfl, ⟨hI, tAns_bad (by omega) hT⟩, ⟨by rw [ht]; exact hP, hDa _⟩⟩, hS.F ht⟩) hS.2.2 dX6_answer_23
        · skip
          exact absurd (by decide) c_51
  · skip
    replace e_7 : r_1 = 0 := e_7
    subst e_7
    replace h_6 : ¬ (0 ≤ pe.toInt ∧ pe.toInt < 24) := h_6
    refine lv_if_eq (tgt := 21) hx hb dX6_answer_4 (by decide) (fun c_52 => ?_) (fun c_52 => ?_)
    · skip
      refine lv_bipush (v := (-2)) hx hb dX6_answer_21 (by decide) ?_
      exact W.iret (v := (-2)) hx hb hr (fun t ht hW => ⟨⟨(-2), z, rfl, ⟨hI, tAns_bad (by omega) hT⟩, ⟨by rw [ht]; exact hP, hDa _⟩⟩, hS.F ht⟩) hS.2.2 dX6_answer_23
    · skip
      exact absurd (by decide) c_52
set_option maxHeartbeats 4000000 in
set_option maxRecDepth 100000 in
theorem c_X6_read (l : Launch) (dC : Nat → ClassId) (dI : Nat → Nat → Nat) (k : Nat → ClassId) (q : Nat → Nat) (z : ZS) (z0 : Int32) (d : Int32) (sz : Nat) (hI : XInv z) : Met l yX6_read (wz yX6_read cX6_read 8 (some .int)) ({ frames := 1, cells := 0, slots := 0, locals := 24 }) (va_Pc [.ref (q 0), .int z0, .int d] (zPre dC dI k (zTX k) (zX k q z) sz)) (va_Qi (fun (r : Int32) (u : ZS) => (XInv u) ∧ ((r, trX u) = tRead (trX z) z0 d)) (fun u t => zPost dC dI (va_A (zX k q z) sz) (zX k q u) t) (va_A (zX k q z) sz)) 0 0 (va_A (zX k q z) sz) := by
  refine Met.ofW (cc := cX6_read) (maxL := 8) (ret := (some .int)) (by decide) rfl ?_
  intro p e s m args below meth c s₁ B hml hv
  obtain ⟨rfl, hsz, hP, hK, hD0⟩ := hv
  have hx := B.exec
  have hb := B.bytes
  have hr := B.returns
  have hts := atoms_spec (ws := wz yX6_read cX6_read 8 (some .int)) B.pre
  have htb : ∀ w ∈ zw, w.before _ s = true := fun w h => hts w (List.mem_cons_of_mem _ h)
  have hown : s.vm.findClass RX6 = some m.cls := findClass_of_methodNamed B.named
  have hlocks := B.notSynchronized
  clear hts
  subst hsz
  have hD := hD0.self (sz := s.heap.size)
  generalize hAe : va_A (zX k q z) s.heap.size = A at hD ⊢
  have hA : ∀ q : Nat, s.heap.size ≤ q → A q := fun q h => by rw [← hAe]; exact Or.inr h
  have hDa : ∀ z9 : ZS, va_D A (zX k q z9) := fun z9 => va_D_adr (w := zX k q z) rfl hD
  have hl := lv_entry ([.ref (q 0), .int z0, .int d]) (n := 8) (Nat.le_of_ble_eq_true rfl)
  rw [lg_entry_eq]
  generalize (lg_sl ([.ref (q 0), .int z0, .int d]) ++ List.replicate (8 - (lg_sl ([.ref (q 0), .int z0, .int d])).length) Slot.unset).toArray = ls at hl ⊢
  have hl : lv_has ls 8 [(0, .ref (q 0)), (1, .int z0), (2, .int d)] := hl
  refine z_start2 (A := A) (w := (zX k q z)) hP (fun H locs hP hS => ?_)
  clear hD0 hAe
  have hT : trX z = trX z := rfl
  refine lv_iload_n hx hb dX6_read_0 rfl (lv_at hl 1 rfl) ?_
  refine zc0_i (w := (zX k q z)) (va_runS (As := [.int z0]) (rest := []) ⟨hx, hb, hml, hown, htb⟩ (c_X6_isSheet l dC dI k z0 _ ) (va_cwS 1 htb (gzS wmt2_95 wmt2_96 wmt1_1 wmt2_97) rfl rfl rfl (by decide +kernel) ⟨Nat.le_of_ble_eq_true rfl, Nat.le_of_ble_eq_true rfl⟩) (zp0_S hK) rfl rfl hl.1 rfl (lv_room (Nat.le_of_ble_eq_true rfl)) dX6_read_1 ⟨Nat.le_of_ble_eq_true rfl, Nat.le_of_ble_eq_true rfl⟩) hP hS hA (fun r_1 u_2 H locs w_3 hP hS => ?_)
  rcases w_3 with ⟨e_5, h_4⟩ | ⟨e_7, h_6⟩
  · skip
    replace e_5 : r_1 = 1 := e_5
    subst e_5
    replace h_4 : 0 ≤ z0.toInt ∧ z0.toInt < 4 := h_4
    refine lv_if_eq (tgt := 14) hx hb dX6_read_4 (by decide) (fun c_8 => ?_) (fun c_8 => ?_)
    · skip
      exact absurd c_8 (by decide)
    · skip
      refine lv_iload_n hx hb dX6_read_7 rfl (lv_at hl 2 rfl) ?_
      refine zc0_i (w := (zX k q z)) (va_runS (As := [.int d]) (rest := []) ⟨hx, hb, hml, hown, htb⟩ (c_X6_isDesign l dC dI k d _ ) (va_cwS 1 htb (gzS wmt1_211 wmt1_212 wmt1_1 wmt1_213) rfl rfl rfl (by decide +kernel) ⟨Nat.le_of_ble_eq_true rfl, Nat.le_of_ble_eq_true rfl⟩) (zp0_S hK) rfl rfl hl.1 rfl (lv_room (Nat.le_of_ble_eq_true rfl)) dX6_read_8 ⟨Nat.le_of_ble_eq_true rfl, Nat.le_of_ble_eq_true rfl⟩) hP hS hA (fun r_9 u_10 H locs w_11 hP hS => ?_)
      rcases w_11 with ⟨e_13, h_12⟩ | ⟨e_15, h_14⟩
      · skip
        replace e_13 : r_9 = 1 := e_13
        subst e_13
        replace h_12 : 0 ≤ d.toInt ∧ d.toInt < 4 := h_12
        refine lv_if_ne (tgt := 17) hx hb dX6_read_11 (by decide) (fun c_16 => ?_) (fun c_16 => ?_)
        · skip
          refine lv_aload_n hx hb dX6_read_17 rfl (lv_at hl 0 rfl) ?_
          refine va_get (D := (dC, dI)) (ci := 6) (v := .ref (q 2)) (C := RX6) (T := TX6) (N := 12) hx hb htb inw6 hown hK.1 hP 0 rfl rfl 1 (by decide) (htb _ wmt1_171) (fun _ h9 => h9) rfl dX6_read_18 ?_
          refine lv_iload_n hx hb dX6_read_21 rfl (lv_at hl 1 rfl) ?_
          refine va_aldq (D := (dC, dI)) hx hb hK.1 hP 2 4 rfl rfl (z_in (by omega)) dX6_read_22 ?_
          obtain ⟨d_17, ed_17⟩ : ∃ x : Nat, x = z0.toNatClampNeg := ⟨_, rfl⟩
          have hd_17 : d_17 < 4 := by rw [ed_17]; exact z_cl4 (by omega)
          refine z_top (v2 := .ref (qS q d_17 0)) (zgS_at2 ed_17 hd_17) ?_
          refine lv_astore_n (lv' := [(3, .ref (qS q d_17 0)), (0, .ref (q 0)), (1, .int z0), (2, .int d)]) hx hb dX6_read_23 rfl hl (by decide) rfl (fun ls hl => ?_)
          refine lv_aload_n hx hb dX6_read_24 rfl (lv_at hl 0 rfl) ?_
          refine zcS_i (w := (zX k q z)) (wc := (zS k (qS q d_17) (xS z d_17))) (va_runV (As := []) (rest := []) ⟨hx, hb, hml, hown, htb⟩ (c_X5_isLost l dC dI k (qS q d_17) (xS z d_17) _ ) (cwV 0 htb (gzV wmt2_98 wmt2_99 wmt2_100 wmt1_7 wmt2_101) rfl rfl rfl (by decide +kernel) ⟨Nat.le_of_ble_eq_true rfl, Nat.le_of_ble_eq_true rfl⟩) (zp_V (ci := 5) (q0 := (28 + 2 * d_17)) hK hP (hDa _) [28 + 2 * d_17, 29 + 2 * d_17] (zX_SC hd_17) (zX_ndS hd_17) rfl (zX_S0 hd_17)) rfl rfl hl.1 rfl (lv_room (Nat.le_of_ble_eq_true rfl)) dX6_read_25 ⟨Nat.le_of_ble_eq_true rfl, Nat.le_of_ble_eq_true rfl⟩) hP (hDa _) hS hA [28 + 2 * d_17, 29 + 2 * d_17] (zX_SC hd_17) (fun _ => rfl) (fun r_18 u_19 H locs w_20 hP _ hS => ?_)
          have hP : va_P (dC, dI) vwCl (zX k q z) H := (zX_Skeep hd_17) ▸ hP
          rcases w_20 with ⟨e_22, h_21⟩ | ⟨e_24, h_23⟩
          · skip
            replace e_22 : r_18 = 1 := e_22
            subst e_22
            replace h_21 : ((xS z d_17).1 0).toInt = -1 := h_21
            have hl0 : (z.1 (34 + 2 * d_17 + 0)).toInt = -1 := h_21
            refine lv_if_eq (tgt := 37) hx hb dX6_read_28 (by decide) (fun c_25 => ?_) (fun c_25 => ?_)
            · skip
              exact absurd c_25 (by decide)
            · skip
              refine lv_aload_n hx hb dX6_read_31 rfl (lv_at hl 1 rfl) ?_
              refine lv_iconst (v := 1) hx hb dX6_read_32 (by decide) ?_
              refine zcA_i (w := (zX k q z)) (va_runV (As := [.int 1]) (rest := []) ⟨hx, hb, hml, hown, htb⟩ (c_X6_found l dC dI k q z 1 _ hI) (cwV 1 htb (gzV wmt2_102 wmt2_104 wmp1_7 wmt1_1 wmt2_105) rfl rfl rfl (by decide +kernel) ⟨Nat.le_of_ble_eq_true rfl, Nat.le_of_ble_eq_true rfl⟩) (zpA_V (ci := 6) (q0 := 0) hK hP (hDa _) rfl rfl) rfl rfl hl.1 rfl (lv_room (Nat.le_of_ble_eq_true rfl)) dX6_read_33 ⟨Nat.le_of_ble_eq_true rfl, Nat.le_of_ble_eq_true rfl⟩) (hDa _) hS hA (fun r_26 u_27 H locs w_28 hP _ hS => ?_)
              obtain ⟨h_29, h_30, h_31⟩ := w_28
              replace h_29 : XInv u_27 := h_29
              replace h_30 : trX u_27 = trX z := h_30
              replace h_31 : r_26 = (-10) - (1 : Int32) := h_31
              have hI := h_29
              have hT := h_30.trans hT
              have hfd : r_26 = -11 := h_31.trans (by decide)
              exact W.iret (v := r_26) hx hb hr (fun t ht hW => ⟨⟨r_26, u_27, rfl, ⟨hI, tRead_1 (by omega) ed_17 (trX_Sg hd_17).1 hl0 hfd hT⟩, ⟨by rw [ht]; exact hP, hDa _⟩⟩, hS.F ht⟩) hS.2.2 dX6_read_36
          · skip
            replace e_24 : r_18 = 0 := e_24
            subst e_24
            replace h_23 : ¬ ((xS z d_17).1 0).toInt = -1 := h_23
            have hl0 : ¬ (z.1 (34 + 2 * d_17 + 0)).toInt = -1 := h_23
            refine lv_if_eq (tgt := 37) hx hb dX6_read_28 (by decide) (fun c_33 => ?_) (fun c_33 => ?_)
            · skip
              refine lv_aload_n hx hb dX6_read_37 rfl (lv_at hl 1 rfl) ?_
              refine va_get (D := (dC, dI)) (ci := 6) (v := .ref (q 1)) (C := RX6) (T := TX6) (N := 12) hx hb htb inw6 hown hK.1 hP 0 rfl rfl 0 (by decide) (htb _ wmt1_170) (fun _ h9 => h9) rfl dX6_read_38 ?_
              refine lv_iload_n hx hb dX6_read_41 rfl (lv_at hl 3 rfl) ?_
              refine va_aldq (D := (dC, dI)) hx hb hK.1 hP 1 3 rfl rfl (z_in (by omega)) dX6_read_42 ?_
              obtain ⟨d_34, ed_34⟩ : ∃ x : Nat, x = d.toNatClampNeg := ⟨_, rfl⟩
              have hd_34 : d_34 < 4 := by rw [ed_34]; exact z_cl4 (by omega)
              refine z_top (v2 := .ref (qD q d_34 0)) (zgD_at2 ed_34 hd_34) ?_
              refine zcS_i (w := (zX k q z)) (wc := (zD k (qD q d_34) (xD z d_34))) (va_runV (As := []) (rest := []) ⟨hx, hb, hml, hown, htb⟩ (c_X1_isFaulty l dC dI k (qD q d_34) (xD z d_34) _ ) (cwV 0 htb (gzV wmt2_55 wmt2_20 wmt2_21 wmt1_6 wmt2_22) rfl rfl rfl (by decide +kernel) ⟨Nat.le_of_ble_eq_true rfl, Nat.le_of_ble_eq_true rfl⟩) (zp_V (ci := 1) (q0 := (16 + 3 * d_34)) hK hP (hDa _) [16 + 3 * d_34, 17 + 3 * d_34, 18 + 3 * d_34] (zX_DC hd_34) (zX_ndD hd_34) rfl (zX_D0 hd_34)) rfl rfl hl.1 rfl (lv_room (Nat.le_of_ble_eq_true rfl)) dX6_read_43 ⟨Nat.le_of_ble_eq_true rfl, Nat.le_of_ble_eq_true rfl⟩) hP (hDa _) hS hA [16 + 3 * d_34, 17 + 3 * d_34, 18 + 3 * d_34] (zX_DC hd_34) (fun _ => rfl) (fun r_35 u_36 H locs w_37 hP _ hS => ?_)
              have hP : va_P (dC, dI) vwCl (zX k q z) H := (zX_Dkeep hd_34) ▸ hP
              rcases w_37 with ⟨e_39, h_38⟩ | ⟨e_41, h_40⟩
              · skip
                replace e_39 : r_35 = 1 := e_39
                subst e_39
                replace h_38 : ¬ ((xD z d_34).1 2).toInt = -1 := h_38
                have hfa : ¬ (z.1 (10 + 6 * d_34 + 2)).toInt = -1 := h_38
                refine lv_if_eq (tgt := 52) hx hb dX6_read_46 (by decide) (fun c_42 => ?_) (fun c_42 => ?_)
                · skip
                  exact absurd c_42 (by decide)
                · skip
                  refine lv_bipush (v := (-3)) hx hb dX6_read_49 (by decide) ?_
                  exact W.iret (v := (-3)) hx hb hr (fun t ht hW => ⟨⟨(-3), z, rfl, ⟨hI, tRead_3 (by omega) ed_17 ed_34 (trX_Sg hd_17).1 hl0 (trX_Fg hd_34) hfa hT⟩, ⟨by rw [ht]; exact hP, hDa _⟩⟩, hS.F ht⟩) hS.2.2 dX6_read_51
              · skip
                replace e_41 : r_35 = 0 := e_41
                subst e_41
                replace h_40 : ((xD z d_34).1 2).toInt = -1 := h_40
                have hfa : (z.1 (10 + 6 * d_34 + 2)).toInt = -1 := h_40
                have hlx := tL_X (z := z) hd_34 hfa
                refine lv_if_eq (tgt := 52) hx hb dX6_read_46 (by decide) (fun c_43 => ?_) (fun c_43 => ?_)
                · skip
                  refine lv_aload_n hx hb dX6_read_52 rfl (lv_at hl 0 rfl) ?_
                  refine va_get (D := (dC, dI)) (ci := 5) (v := .int (z.1 (34 + 2 * d_17 + 1))) (C := RX5) (T := TX5) (N := 3) hx hb htb inw5 hown hK.1 hP (28 + 2 * d_17) (zX_S0 hd_17) rfl 2 (by decide) (htb _ wmt1_162) (fun _ h9 => h9) rfl dX6_read_53 ?_
                  refine lv_topi (fun x_44 ex_44 => ?_)
                  have hx_44 : x_44.toInt = (z.1 (34 + 2 * d_17 + 1)).toInt := by rw [ex_44]
                  have hzx_44 := XInv_S hd_17 hI
                  unfold XR at hzx_44
                  refine lv_iconst (v := 2) hx hb dX6_read_56 (by decide) ?_
                  refine lv_idiv hx hb dX6_read_57 (by decide) ?_
                  refine lv_topi (fun x_45 ex_45 => ?_)
                  have hx_45 : 2 * x_45.toInt ≤ x_44.toInt ∧ 0 ≤ x_45.toInt := z_half ex_45 (by omega)
                  have hpd := zi_div ex_45 rfl (show (2 : Int32).toInt = 2 by decide) (by omega) (by omega)
                  have hpr0 : x_45.toInt = (tN (trX z) z0.toNatClampNeg).toInt / 2 := by rw [hpd.1, hx_44, ← ed_17]; exact congrArg (fun y9 : Int32 => y9.toInt / 2) (trX_Sg hd_17).2.symm
                  refine lv_istore (lv' := [(4, .int x_45), (3, .ref (qS q d_17 0)), (0, .ref (q 0)), (1, .int z0), (2, .int d)]) hx hb dX6_read_58 hl (by decide) rfl (fun ls hl => ?_)
                  refine lv_iconst (v := 0) hx hb dX6_read_60 (by decide) ?_
                  refine lv_istore (lv' := [(5, .int 0), (4, .int x_45), (3, .ref (qS q d_17 0)), (0, .ref (q 0)), (1, .int z0), (2, .int d)]) hx hb dX6_read_61 hl (by decide) rfl (fun ls hl => ?_)
                  obtain ⟨pr, epr⟩ : ∃ x : Int32, x_45 = x := ⟨_, rfl⟩
                  obtain ⟨i, ei⟩ : ∃ x : Int32, 0 = x := ⟨_, rfl⟩
                  obtain ⟨z1, ez1⟩ : ∃ x : ZS, z = x := ⟨_, rfl⟩
                  have hv63 : (0 ≤ i.toInt ∧ i.toInt ≤ 30) ∧ (pr.toInt = (tN (trX z) z0.toNatClampNeg).toInt / 2 ∧ 0 ≤ pr.toInt ∧ pr.toInt ≤ 30) ∧ (i.toInt ≤ pr.toInt) ∧ (XInv z1) ∧ (rdL z0.toNatClampNeg (pr.toInt - i.toInt).toNat i.toNatClampNeg (trX z1) = rdL z0.toNatClampNeg pr.toInt.toNat 0 (trX z)) := by subst epr ei ez1; exact ⟨(by decide), ⟨hpr0, by omega, by omega⟩, (by have q0 : (0 : Int32).toInt = 0 := (by decide); omega), hI, (by rw [show (0 : Int32).toInt = 0 by decide, show (0 : Int32).toNatClampNeg = 0 by decide, Int.sub_zero])⟩
                  replace hl : lv_has ls 8 [(5, .int i), (4, .int pr), (3, .ref (qS q d_17 0)), (0, .ref (q 0)), (1, .int z0), (2, .int d)] := by subst epr ei ez1; exact hl
                  replace hP : va_P (dC, dI) vwCl (zX k q z1) H := by subst ez1; exact hP
                  clear epr ei ez1
                  obtain ⟨mm63, hm63⟩ : ∃ mm : Nat, mm = (30 - i.toInt).toNat := ⟨_, rfl⟩
                  refine z_cut2 hP hS hl ?_
                  clear hl hP
                  intro H locs ls hP hS hl
                  induction mm63 using Nat.strongRecOn generalizing pr i z1 H locs ls with
                  | _ mm63 ih63 =>
                    obtain ⟨hi, hpr, hip, hI1, hR⟩ := hv63
                    have hI := hI1
                    have hIo := hI1
                    refine lv_iload hx hb dX6_read_63 (lv_at hl 0 rfl) ?_
                    refine lv_iload hx hb dX6_read_65 (lv_at hl 1 rfl) ?_
                    refine lv_icmp_ge (tgt := 140) hx hb dX6_read_67 (by decide) (fun c_46 => ?_) (fun c_46 => ?_)
                    · skip
                      have hc_46 := zb_le rfl rfl c_46
                      refine lv_iload hx hb dX6_read_140 (lv_at hl 1 rfl) ?_
                      exact W.iret (v := pr) hx hb hr (fun t ht hW => ⟨⟨pr, z1, rfl, ⟨hI, tRead_0 (by omega) ed_17 ed_34 (trX_Sg hd_17).1 hl0 (trX_Fg hd_34) hfa (show pr.toInt.toNat = ((tN (trX z) d_17).toInt / 2).toNat by rw [ed_17]; omega) (by rw [ed_17]) (hR.symm.trans (by rw [show (pr.toInt - i.toInt).toNat = 0 by omega, rdL_0, show i = pr from Int32.toInt_inj.mp (by omega)])) (by omega)⟩, ⟨by rw [ht]; exact hP, hDa _⟩⟩, hS.F ht⟩) hS.2.2 dX6_read_142
                    · skip
                      have hc_46 := zb_nle rfl rfl c_46
                      refine lv_aload_n hx hb dX6_read_70 rfl (lv_at hl 2 rfl) ?_
                      refine va_get (D := (dC, dI)) (ci := 5) (v := .ref (qS q d_17 1)) (C := RX5) (T := TX5) (N := 3) hx hb htb inw5 hown hK.1 hP (28 + 2 * d_17) (zX_S0 hd_17) rfl 0 (by decide) (htb _ wmt1_158) (fun _ h9 => h9) rfl dX6_read_71 ?_
                      refine lv_iconst (v := 2) hx hb dX6_read_74 (by decide) ?_
                      refine lv_iload hx hb dX6_read_75 (lv_at hl 0 rfl) ?_
                      refine lv_imul hx hb dX6_read_77 ?_
                      refine lv_topi (fun x_47 ex_47 => ?_)
                      have hx_47 := z_mul ex_47 (show (2 : Int32).toInt = 2 by decide) rfl (by omega)
                      refine va_iald (D := (dC, dI)) hx hb hK.1 hP (29 + 2 * d_17) 0 (zX_S1 hd_17) rfl (z_in (by omega)) dX6_read_78 ?_
                      refine lv_topi (fun x_48 ex_48 => ?_)
                      have hit0 : tIt (trX z1) z0.toNatClampNeg (2 * i.toNatClampNeg) = cI x_48 := by rw [← ed_17, show tIt (trX z1) d_17 = cR (z1.2.2.1 (12 + d_17 + 0)) from trX_Ig hd_17, ex_48, show x_47.toNatClampNeg = 2 * i.toNatClampNeg by have q1 := z_clamp (x := i) (by omega); have q2 := z_clamp (x := x_47) (by omega); omega]; exact if_pos (by have q1 := z_clamp (x := i) (by omega); omega)
                      refine lv_istore (lv' := [(6, .int x_48), (5, .int i), (4, .int pr), (3, .ref (qS q d_17 0)), (0, .ref (q 0)), (1, .int z0), (2, .int d)]) hx hb dX6_read_79 hl (by decide) rfl (fun ls hl => ?_)
                      refine lv_aload_n hx hb dX6_read_81 rfl (lv_at hl 3 rfl) ?_
                      refine va_get (D := (dC, dI)) (ci := 5) (v := .ref (qS q d_17 1)) (C := RX5) (T := TX5) (N := 3) hx hb htb inw5 hown hK.1 hP (28 + 2 * d_17) (zX_S0 hd_17) rfl 0 (by decide) (htb _ wmt1_158) (fun _ h9 => h9) rfl dX6_read_82 ?_
                      refine lv_iconst (v := 2) hx hb dX6_read_85 (by decide) ?_
                      refine lv_iload hx hb dX6_read_86 (lv_at hl 1 rfl) ?_
                      refine lv_imul hx hb dX6_read_88 ?_
                      refine lv_topi (fun x_49 ex_49 => ?_)
                      have hx_49 := z_mul ex_49 (show (2 : Int32).toInt = 2 by decide) rfl (by omega)
                      refine lv_iconst (v := 1) hx hb dX6_read_89 (by decide) ?_
                      refine lv_iadd hx hb dX6_read_90 ?_
                      refine lv_topi (fun x_50 ex_50 => ?_)
                      have hx_50 := z_add ex_50 rfl (show (1 : Int32).toInt = 1 by decide) (by omega)
                      refine va_iald (D := (dC, dI)) hx hb hK.1 hP (29 + 2 * d_17) 0 (zX_S1 hd_17) rfl (z_in (by omega)) dX6_read_91 ?_
                      refine lv_topi (fun x_51 ex_51 => ?_)
                      have hit1 : tIt (trX z1) z0.toNatClampNeg (2 * i.toNatClampNeg + 1) = cI x_51 := by rw [← ed_17, show tIt (trX z1) d_17 = cR (z1.2.2.1 (12 + d_17 + 0)) from trX_Ig hd_17, ex_51, show x_50.toNatClampNeg = 2 * i.toNatClampNeg + 1 by have q1 := z_clamp (x := i) (by omega); have q2 := z_clamp (x := x_50) (by omega); omega]; exact if_pos (by have q1 := z_clamp (x := i) (by omega); omega)
                      refine lv_istore (lv' := [(7, .int x_51), (6, .int x_48), (5, .int i), (4, .int pr), (3, .ref (qS q d_17 0)), (0, .ref (q 0)), (1, .int z0), (2, .int d)]) hx hb dX6_read_92 hl (by decide) rfl (fun ls hl => ?_)
                      refine lv_iload hx hb dX6_read_94 (lv_at hl 1 rfl) ?_
                      refine zc0_i (w := (zX k q z1)) (va_runS (As := [.int x_48]) (rest := []) ⟨hx, hb, hml, hown, htb⟩ (c_X6_isPerson l dC dI k x_48 _ ) (va_cwS 1 htb (gzS wmt2_77 wmt2_78 wmt1_1 wmt2_79) rfl rfl rfl (by decide +kernel) ⟨Nat.le_of_ble_eq_true rfl, Nat.le_of_ble_eq_true rfl⟩) (zp0_S hK) rfl rfl hl.1 rfl (lv_room (Nat.le_of_ble_eq_true rfl)) dX6_read_96 ⟨Nat.le_of_ble_eq_true rfl, Nat.le_of_ble_eq_true rfl⟩) hP hS hA (fun r_52 u_53 H locs w_54 hP hS => ?_)
                      rcases w_54 with ⟨e_56, h_55⟩ | ⟨e_58, h_57⟩
                      · skip
                        replace e_56 : r_52 = 1 := e_56
                        subst e_56
                        replace h_55 : 0 ≤ x_48.toInt ∧ x_48.toInt < 24 := h_55
                        have hp_ : (0 ≤ x_48.toInt ∧ x_48.toInt < 24) := h_55
                        refine lv_if_eq (tgt := 131) hx hb dX6_read_99 (by decide) (fun c_59 => ?_) (fun c_59 => ?_)
                        · skip
                          exact absurd c_59 (by decide)
                        · skip
                          refine lv_iload hx hb dX6_read_102 (lv_at hl 0 rfl) ?_
                          refine zc0_i (w := (zX k q z1)) (va_runS (As := [.int x_51]) (rest := []) ⟨hx, hb, hml, hown, htb⟩ (c_X6_isEither l dC dI k x_51 _ ) (va_cwS 1 htb (gzS wmt2_48 wmt2_49 wmt1_1 wmt2_50) rfl rfl rfl (by decide +kernel) ⟨Nat.le_of_ble_eq_true rfl, Nat.le_of_ble_eq_true rfl⟩) (zp0_S hK) rfl rfl hl.1 rfl (lv_room (Nat.le_of_ble_eq_true rfl)) dX6_read_104 ⟨Nat.le_of_ble_eq_true rfl, Nat.le_of_ble_eq_true rfl⟩) hP hS hA (fun r_60 u_61 H locs w_62 hP hS => ?_)
                          rcases w_62 with ⟨e_64, h_63⟩ | ⟨e_66, h_65⟩
                          · skip
                            replace e_64 : r_60 = 1 := e_64
                            subst e_64
                            replace h_63 : 0 ≤ x_51.toInt ∧ x_51.toInt < 2 := h_63
                            have he_ : (0 ≤ x_51.toInt ∧ x_51.toInt < 2) := h_63
                            refine lv_if_eq (tgt := 131) hx hb dX6_read_107 (by decide) (fun c_67 => ?_) (fun c_67 => ?_)
                            · skip
                              exact absurd c_67 (by decide)
                            · skip
                              refine lv_aload_n hx hb dX6_read_110 rfl (lv_at hl 5 rfl) ?_
                              refine va_get (D := (dC, dI)) (ci := 6) (v := .ref (q 4)) (C := RX6) (T := TX6) (N := 12) hx hb htb inw6 hown hK.1 hP 0 rfl rfl 3 (by decide) (htb _ wmt1_173) (fun _ h9 => h9) rfl dX6_read_111 ?_
                              refine lv_iload hx hb dX6_read_114 (lv_at hl 1 rfl) ?_
                              refine lv_iload_n hx hb dX6_read_116 rfl (lv_at hl 7 rfl) ?_
                              refine lv_iload hx hb dX6_read_117 (lv_at hl 0 rfl) ?_
                              refine lv_aload_n hx hb dX6_read_119 rfl (lv_at hl 5 rfl) ?_
                              refine va_get (D := (dC, dI)) (ci := 6) (v := .int (z1.1 0)) (C := RX6) (T := TX6) (N := 12) hx hb htb inw6 hown hK.1 hP 0 rfl rfl 7 (by decide) (htb _ wmt1_177) (fun _ h9 => h9) rfl dX6_read_120 ?_
                              refine lv_topi (fun x_68 ex_68 => ?_)
                              have hx_68 : x_68.toInt = (z1.1 0).toInt := by rw [ex_68]
                              refine zcS_i (w := (zX k q z1)) (wc := (zA k (qof q 4) (xA z1))) (va_runV (As := [.int x_48, .int d, .int x_51, .int x_68]) (rest := []) ⟨hx, hb, hml, hown, htb⟩ (c_X0_tell l dC dI k (qof q 4) (xA z1) x_48 d x_51 x_68 _ hI.1 (by omega) (by omega)) (cwV 4 htb (gzV wmt2_87 wmt2_88 wmt2_89 wmt1_2 wmt2_90) rfl rfl rfl (by decide +kernel) ⟨Nat.le_of_ble_eq_true rfl, Nat.le_of_ble_eq_true rfl⟩) (zp_V (ci := 0) (q0 := 4) hK hP (hDa _) [4, 5, 6, 7, 8, 9, 10, 11] rfl (by decide) rfl rfl) rfl rfl hl.1 rfl (lv_room (Nat.le_of_ble_eq_true rfl)) dX6_read_123 ⟨Nat.le_of_ble_eq_true rfl, Nat.le_of_ble_eq_true rfl⟩) hP (hDa _) hS hA [4, 5, 6, 7, 8, 9, 10, 11] rfl (fun _ => rfl) (fun r_69 u_70 H locs w_71 hP _ hS => ?_)
                              have hP : va_P (dC, dI) vwCl (zX k q (sA (sA (sA (sA (sA (sA (sA (sI (sI z1 5 (u_70.1 0)) 6 (u_70.1 1)) 1 (u_70.2.2.1 0)) 2 (u_70.2.2.1 1)) 3 (u_70.2.2.1 2)) 4 (u_70.2.2.1 3)) 5 (u_70.2.2.1 4)) 6 (u_70.2.2.1 5)) 7 (u_70.2.2.1 6))) H := hP
                              rcases w_71 with ⟨e_76, h_72, h_73, h_74, h_75⟩ | ⟨h_77, h_78, h_79, h_80, h_81⟩
                              · skip
                                replace e_76 : r_69 = (-4) := e_76
                                subst e_76
                                replace h_72 : P6 (u_70.1 1) (u_70.2.2.1 0) (u_70.2.2.1 1) := h_72
                                replace h_73 : 120 ≤ ((xA z1).1 1).toInt := h_73
                                replace h_74 : u_70.1 1 = (xA z1).1 1 := h_74
                                replace h_75 : u_70.2.2.1 4 = (xA z1).2.2.1 4 := h_75
                                have hI : XInv (sA (sA (sA (sA (sA (sA (sA (sI (sI z1 5 (u_70.1 0)) 6 (u_70.1 1)) 1 (u_70.2.2.1 0)) 2 (u_70.2.2.1 1)) 3 (u_70.2.2.1 2)) 4 (u_70.2.2.1 3)) 5 (u_70.2.2.1 4)) 6 (u_70.2.2.1 5)) 7 (u_70.2.2.1 6)) := ⟨h_72, hI.2⟩
                                have hTA : trX (sA (sA (sA (sA (sA (sA (sA (sI (sI z1 5 (u_70.1 0)) 6 (u_70.1 1)) 1 (u_70.2.2.1 0)) 2 (u_70.2.2.1 1)) 3 (u_70.2.2.1 2)) 4 (u_70.2.2.1 3)) 5 (u_70.2.2.1 4)) 6 (u_70.2.2.1 5)) 7 (u_70.2.2.1 6)) = ((trX z1).1.set 32 ((xA z1).1 1), (trX z1).2.1, (trX z1).2.2.set 4 ((xA z1).2.2.1 4)) := (show trX (sA (sA (sA (sA (sA (sA (sA (sI (sI z1 5 (u_70.1 0)) 6 (u_70.1 1)) 1 (u_70.2.2.1 0)) 2 (u_70.2.2.1 1)) 3 (u_70.2.2.1 2)) 4 (u_70.2.2.1 3)) 5 (u_70.2.2.1 4)) 6 (u_70.2.2.1 5)) 7 (u_70.2.2.1 6)) = ((trX z1).1.set 32 (u_70.1 1), (trX z1).2.1, (trX z1).2.2.set 4 (u_70.2.2.1 4)) from rfl).trans (by rw [h_74, h_75])
                                have htl : ((-4 : Int32), trX (sA (sA (sA (sA (sA (sA (sA (sI (sI z1 5 (u_70.1 0)) 6 (u_70.1 1)) 1 (u_70.2.2.1 0)) 2 (u_70.2.2.1 1)) 3 (u_70.2.2.1 2)) 4 (u_70.2.2.1 3)) 5 (u_70.2.2.1 4)) 6 (u_70.2.2.1 5)) 7 (u_70.2.2.1 6))) = tTell (trX z1) := tTell_full rfl h_73 (hTA.trans trX_AK)
                                have hful : 120 ≤ (tNA (trX z1)).toInt := h_73
                                refine lv_bipush (v := (-4)) hx hb dX6_read_126 (by decide) ?_
                                refine lv_icmp_ne (tgt := 134) hx hb dX6_read_128 (by decide) (fun c_83 => ?_) (fun c_83 => ?_)
                                · skip
                                  exact absurd c_83 (by decide)
                                · skip
                                  refine lv_iload hx hb dX6_read_131 (lv_at hl 2 rfl) ?_
                                  exact W.iret (v := i) hx hb hr (fun t ht hW => ⟨⟨i, (sA (sA (sA (sA (sA (sA (sA (sI (sI z1 5 (u_70.1 0)) 6 (u_70.1 1)) 1 (u_70.2.2.1 0)) 2 (u_70.2.2.1 1)) 3 (u_70.2.2.1 2)) 4 (u_70.2.2.1 3)) 5 (u_70.2.2.1 4)) 6 (u_70.2.2.1 5)) 7 (u_70.2.2.1 6)), rfl, ⟨hI, tRead_0 (by omega) ed_17 ed_34 (trX_Sg hd_17).1 hl0 (trX_Fg hd_34) hfa (show pr.toInt.toNat = ((tN (trX z) d_17).toInt / 2).toNat by rw [ed_17]; omega) (by rw [ed_17]) (hR.symm.trans ((rd_no rfl (fun q9 => q9.2 hful)).trans (by rw [show trX (sA (sA (sA (sA (sA (sA (sA (sI (sI z1 5 (u_70.1 0)) 6 (u_70.1 1)) 1 (u_70.2.2.1 0)) 2 (u_70.2.2.1 1)) 3 (u_70.2.2.1 2)) 4 (u_70.2.2.1 3)) 5 (u_70.2.2.1 4)) 6 (u_70.2.2.1 5)) 7 (u_70.2.2.1 6)) = trX z1 from (hTA.trans trX_AK)]))) (by omega)⟩, ⟨by rw [ht]; exact hP, hDa _⟩⟩, hS.F ht⟩) hS.2.2 dX6_read_133
                              · skip
                                replace h_77 : P6 (u_70.1 1) (u_70.2.2.1 0) (u_70.2.2.1 1) := h_77
                                replace h_78 : ¬ 120 ≤ ((xA z1).1 1).toInt := h_78
                                replace h_79 : r_69 = (xA z1).1 1 := h_79
                                replace h_80 : u_70.1 1 = (xA z1).1 1 + 1 := h_80
                                replace h_81 : u_70.2.2.1 4 = upd ((xA z1).2.2.1 4) ((xA z1).1 1).toNatClampNeg (-1) := h_81
                                have hI : XInv (sA (sA (sA (sA (sA (sA (sA (sI (sI z1 5 (u_70.1 0)) 6 (u_70.1 1)) 1 (u_70.2.2.1 0)) 2 (u_70.2.2.1 1)) 3 (u_70.2.2.1 2)) 4 (u_70.2.2.1 3)) 5 (u_70.2.2.1 4)) 6 (u_70.2.2.1 5)) 7 (u_70.2.2.1 6)) := ⟨h_77, hI.2⟩
                                have hTA : trX (sA (sA (sA (sA (sA (sA (sA (sI (sI z1 5 (u_70.1 0)) 6 (u_70.1 1)) 1 (u_70.2.2.1 0)) 2 (u_70.2.2.1 1)) 3 (u_70.2.2.1 2)) 4 (u_70.2.2.1 3)) 5 (u_70.2.2.1 4)) 6 (u_70.2.2.1 5)) 7 (u_70.2.2.1 6)) = ((trX z1).1.set 32 ((xA z1).1 1 + 1), (trX z1).2.1, (trX z1).2.2.set 4 (upd ((xA z1).2.2.1 4) ((xA z1).1 1).toNatClampNeg (-1))) := (show trX (sA (sA (sA (sA (sA (sA (sA (sI (sI z1 5 (u_70.1 0)) 6 (u_70.1 1)) 1 (u_70.2.2.1 0)) 2 (u_70.2.2.1 1)) 3 (u_70.2.2.1 2)) 4 (u_70.2.2.1 3)) 5 (u_70.2.2.1 4)) 6 (u_70.2.2.1 5)) 7 (u_70.2.2.1 6)) = ((trX z1).1.set 32 (u_70.1 1), (trX z1).2.1, (trX z1).2.2.set 4 (u_70.2.2.1 4)) from rfl).trans (by rw [h_80, h_81])
                                have htl : (r_69, trX (sA (sA (sA (sA (sA (sA (sA (sI (sI z1 5 (u_70.1 0)) 6 (u_70.1 1)) 1 (u_70.2.2.1 0)) 2 (u_70.2.2.1 1)) 3 (u_70.2.2.1 2)) 4 (u_70.2.2.1 3)) 5 (u_70.2.2.1 4)) 6 (u_70.2.2.1 5)) 7 (u_70.2.2.1 6))) = tTell (trX z1) := tTell_ok rfl h_78 h_79 hTA
                                have hful : ¬ 120 ≤ (tNA (trX z1)).toInt := h_78
                                have hrn : 0 ≤ r_69.toInt := by rw [h_79]; exact (show P6 _ _ _ from hIo.1).1
                                refine lv_bipush (v := (-4)) hx hb dX6_read_126 (by decide) ?_
                                refine lv_icmp_ne (tgt := 134) hx hb dX6_read_128 (by decide) (fun c_84 => ?_) (fun c_84 => ?_)
                                · skip
                                  have hc_84 := zb_ne rfl (show ((-4) : Int32).toInt = (-4) by decide) c_84
                                  obtain ⟨x_85, ex_85⟩ : ∃ y : Int32, y = i + 1 := ⟨_, rfl⟩
                                  have hx_85 : x_85.toInt = i.toInt + 1 := z_add ex_85 rfl (show (1 : Int32).toInt = 1 by decide) (by omega)
                                  refine lv_iinc (v := x_85) (lv' := [(5, .int x_85), (7, .int x_51), (6, .int x_48), (4, .int pr), (3, .ref (qS q d_17 0)), (0, .ref (q 0)), (1, .int z0), (2, .int d)]) hx hb dX6_read_134 hl (k := 2) rfl (by rw [ex_85]; rfl) (by decide) rfl (fun ls hl => ?_)
                                  refine lv_goto (tgt := 63) hx hb dX6_read_137 (by decide) ?_
                                  exact ih63 ((30 - x_85.toInt).toNat) (by omega) pr x_85 (sA (sA (sA (sA (sA (sA (sA (sI (sI z1 5 (u_70.1 0)) 6 (u_70.1 1)) 1 (u_70.2.2.1 0)) 2 (u_70.2.2.1 1)) 3 (u_70.2.2.1 2)) 4 (u_70.2.2.1 3)) 5 (u_70.2.2.1 4)) 6 (u_70.2.2.1 5)) 7 (u_70.2.2.1 6)) ⟨(show 0 ≤ x_85.toInt ∧ x_85.toInt ≤ 30 by omega), hpr, (show x_85.toInt ≤ pr.toInt by omega), hI, (rd_go (f := (pr.toInt - i.toInt).toNat) (by omega) hR ⟨by rw [hit0]; exact cI_p.mpr hp_, by rw [hit1]; exact cI_e.mpr he_⟩ hful (by have q1 := z_clamp (x := i) (by omega); have q2 := z_clamp (x := x_85) (by omega); omega) htl)⟩ rfl H locs ls hP hS (lv_sub hl [0, 3, 4, 5, 6, 7] rfl)
                                · skip
                                  have hc_84 := zb_eq rfl (show ((-4) : Int32).toInt = (-4) by decide) c_84
                                  exfalso; omega
                          · skip
                            replace e_66 : r_60 = 0 := e_66
                            subst e_66
                            replace h_65 : ¬ (0 ≤ x_51.toInt ∧ x_51.toInt < 2) := h_65
                            have he_ : ¬ (0 ≤ x_51.toInt ∧ x_51.toInt < 2) := h_65
                            refine lv_if_eq (tgt := 131) hx hb dX6_read_107 (by decide) (fun c_86 => ?_) (fun c_86 => ?_)
                            · skip
                              refine lv_iload hx hb dX6_read_131 (lv_at hl 2 rfl) ?_
                              exact W.iret (v := i) hx hb hr (fun t ht hW => ⟨⟨i, z1, rfl, ⟨hI, tRead_0 (by omega) ed_17 ed_34 (trX_Sg hd_17).1 hl0 (trX_Fg hd_34) hfa (show pr.toInt.toNat = ((tN (trX z) d_17).toInt / 2).toNat by rw [ed_17]; omega) (by rw [ed_17]) (hR.symm.trans ((rd_no rfl (fun q9 => he_ (cI_e.mp (by rw [← hit1]; exact q9.1.2)))).trans (by rw [show trX z1 = trX z1 from rfl]))) (by omega)⟩, ⟨by rw [ht]; exact hP, hDa _⟩⟩, hS.F ht⟩) hS.2.2 dX6_read_133
                            · skip
                              exact absurd (by decide) c_86
                      · skip
                        replace e_58 : r_52 = 0 := e_58
                        subst e_58
                        replace h_57 : ¬ (0 ≤ x_48.toInt ∧ x_48.toInt < 24) := h_57
                        have hp_ : ¬ (0 ≤ x_48.toInt ∧ x_48.toInt < 24) := h_57
                        refine lv_if_eq (tgt := 131) hx hb dX6_read_99 (by decide) (fun c_87 => ?_) (fun c_87 => ?_)
                        · skip
                          refine lv_iload hx hb dX6_read_131 (lv_at hl 2 rfl) ?_
                          exact W.iret (v := i) hx hb hr (fun t ht hW => ⟨⟨i, z1, rfl, ⟨hI, tRead_0 (by omega) ed_17 ed_34 (trX_Sg hd_17).1 hl0 (trX_Fg hd_34) hfa (show pr.toInt.toNat = ((tN (trX z) d_17).toInt / 2).toNat by rw [ed_17]; omega) (by rw [ed_17]) (hR.symm.trans ((rd_no rfl (fun q9 => hp_ (cI_p.mp (by rw [← hit0]; exact q9.1.1)))).trans (by rw [show trX z1 = trX z1 from rfl]))) (by omega)⟩, ⟨by rw [ht]; exact hP, hDa _⟩⟩, hS.F ht⟩) hS.2.2 dX6_read_133
                        · skip
                          exact absurd (by decide) c_87
                · skip
                  exact absurd (by decide) c_43
            · skip
              exact absurd (by decide) c_33
        · skip
          exact absurd c_16 (by decide)
      · skip
        replace e_15 : r_9 = 0 := e_15
        subst e_15
        replace h_14 : ¬ (0 ≤ d.toInt ∧ d.toInt < 4) := h_14
        refine lv_if_ne (tgt := 17) hx hb dX6_read_11 (by decide) (fun c_88 => ?_) (fun c_88 => ?_)
        · skip
          exact absurd c_88 (by decide)
        · skip
          refine lv_bipush (v := (-2)) hx hb dX6_read_14 (by decide) ?_
          exact W.iret (v := (-2)) hx hb hr (fun t ht hW => ⟨⟨(-2), z, rfl, ⟨hI, tRead_bad (by omega) hT⟩, ⟨by rw [ht]; exact hP, hDa _⟩⟩, hS.F ht⟩) hS.2.2 dX6_read_16
  · skip
    replace e_7 : r_1 = 0 := e_7
    subst e_7
    replace h_6 : ¬ (0 ≤ z0.toInt ∧ z0.toInt < 4) := h_6
    refine lv_if_eq (tgt := 14) hx hb dX6_read_4 (by decide) (fun c_89 => ?_) (fun c_89 => ?_)
    · skip
      refine lv_bipush (v := (-2)) hx hb dX6_read_14 (by decide) ?_
      exact W.iret (v := (-2)) hx hb hr (fun t ht hW => ⟨⟨(-2), z, rfl, ⟨hI, tRead_bad (by omega) hT⟩, ⟨by rw [ht]; exact hP, hDa _⟩⟩, hS.F ht⟩) hS.2.2 dX6_read_16
    · skip
      exact absurd (by decide) c_89
set_option maxHeartbeats 4000000 in
set_option maxRecDepth 100000 in
theorem c_X6_takeBack (l : Launch) (dC : Nat → ClassId) (dI : Nat → Nat → Nat) (k : Nat → ClassId) (q : Nat → Nat) (z : ZS) (n : Int32) (sz : Nat) (hI : XInv z) : Met l yX6_takeBack (wz yX6_takeBack cX6_takeBack 2 (some .int)) ({ frames := 1, cells := 0, slots := 0, locals := 21 }) (va_Pc [.ref (q 0), .int n] (zPre dC dI k (zTX k) (zX k q z) sz)) (va_Qi (fun (r : Int32) (u : ZS) => (XInv u) ∧ ((r, trX u) = tBack (trX z) n)) (fun u t => zPost dC dI (va_A (zX k q z) sz) (zX k q u) t) (va_A (zX k q z) sz)) 0 0 (va_A (zX k q z) sz) := by
  refine Met.ofW (cc := cX6_takeBack) (maxL := 2) (ret := (some .int)) (by decide) rfl ?_
  intro p e s m args below meth c s₁ B hml hv
  obtain ⟨rfl, hsz, hP, hK, hD0⟩ := hv
  have hx := B.exec
  have hb := B.bytes
  have hr := B.returns
  have hts := atoms_spec (ws := wz yX6_takeBack cX6_takeBack 2 (some .int)) B.pre
  have htb : ∀ w ∈ zw, w.before _ s = true := fun w h => hts w (List.mem_cons_of_mem _ h)
  have hown : s.vm.findClass RX6 = some m.cls := findClass_of_methodNamed B.named
  have hlocks := B.notSynchronized
  clear hts
  subst hsz
  have hD := hD0.self (sz := s.heap.size)
  generalize hAe : va_A (zX k q z) s.heap.size = A at hD ⊢
  have hA : ∀ q : Nat, s.heap.size ≤ q → A q := fun q h => by rw [← hAe]; exact Or.inr h
  have hDa : ∀ z9 : ZS, va_D A (zX k q z9) := fun z9 => va_D_adr (w := zX k q z) rfl hD
  have hl := lv_entry ([.ref (q 0), .int n]) (n := 2) (Nat.le_of_ble_eq_true rfl)
  rw [lg_entry_eq]
  generalize (lg_sl ([.ref (q 0), .int n]) ++ List.replicate (2 - (lg_sl ([.ref (q 0), .int n])).length) Slot.unset).toArray = ls at hl ⊢
  have hl : lv_has ls 2 [(0, .ref (q 0)), (1, .int n)] := hl
  refine z_start2 (A := A) (w := (zX k q z)) hP (fun H locs hP hS => ?_)
  clear hD0 hAe
  have hT : trX z = trX z := rfl
  have hA2 := hI.1.1
  have hA3 := hI.1.2.1
  have hA7 : ((xA z).1 1).toInt = (z.1 6).toInt := rfl
  refine lv_aload_n hx hb dX6_takeBack_0 rfl (lv_at hl 0 rfl) ?_
  refine va_get (D := (dC, dI)) (ci := 6) (v := .ref (q 4)) (C := RX6) (T := TX6) (N := 12) hx hb htb inw6 hown hK.1 hP 0 rfl rfl 3 (by decide) (htb _ wmt1_173) (fun _ h9 => h9) rfl dX6_takeBack_1 ?_
  refine lv_iload_n hx hb dX6_takeBack_4 rfl (lv_at hl 1 rfl) ?_
  refine zcS_i (w := (zX k q z)) (wc := (zA k (qof q 4) (xA z))) (va_runV (As := [.int n]) (rest := []) ⟨hx, hb, hml, hown, htb⟩ (c_X0_isThere l dC dI k (qof q 4) (xA z) n _ ) (cwV 1 htb (gzV wmt2_110 wmt2_111 wmt2_112 wmt1_2 wmt2_113) rfl rfl rfl (by decide +kernel) ⟨Nat.le_of_ble_eq_true rfl, Nat.le_of_ble_eq_true rfl⟩) (zp_V (ci := 0) (q0 := 4) hK hP (hDa _) [4, 5, 6, 7, 8, 9, 10, 11] rfl (by decide) rfl rfl) rfl rfl hl.1 rfl (lv_room (Nat.le_of_ble_eq_true rfl)) dX6_takeBack_5 ⟨Nat.le_of_ble_eq_true rfl, Nat.le_of_ble_eq_true rfl⟩) hP (hDa _) hS hA [4, 5, 6, 7, 8, 9, 10, 11] rfl (fun _ => rfl) (fun r_1 u_2 H locs w_3 hP _ hS => ?_)
  have hP : va_P (dC, dI) vwCl (zX k q z) H := hP
  rcases w_3 with ⟨e_5, h_4⟩ | ⟨e_7, h_6⟩
  · skip
    replace e_5 : r_1 = 1 := e_5
    subst e_5
    replace h_4 : 0 ≤ n.toInt ∧ n.toInt < ((xA z).1 1).toInt := h_4
    refine lv_if_ne (tgt := 14) hx hb dX6_takeBack_8 (by decide) (fun c_8 => ?_) (fun c_8 => ?_)
    · skip
      refine lv_aload_n hx hb dX6_takeBack_14 rfl (lv_at hl 0 rfl) ?_
      refine va_get (D := (dC, dI)) (ci := 6) (v := .ref (q 4)) (C := RX6) (T := TX6) (N := 12) hx hb htb inw6 hown hK.1 hP 0 rfl rfl 3 (by decide) (htb _ wmt1_173) (fun _ h9 => h9) rfl dX6_takeBack_15 ?_
      refine va_get (D := (dC, dI)) (ci := 0) (v := .ref (q 9)) (C := RX0) (T := TX0) (N := 9) hx hb htb inw0 hown hK.1 hP 4 rfl rfl 4 (by decide) (htb _ wmt1_39) (fun _ h9 => h9) rfl dX6_takeBack_18 ?_
      refine lv_iload_n hx hb dX6_takeBack_21 rfl (lv_at hl 1 rfl) ?_
      refine va_iald (D := (dC, dI)) hx hb hK.1 hP 9 0 rfl rfl (z_in (by omega)) dX6_takeBack_22 ?_
      refine lv_topi (fun x_9 ex_9 => ?_)
      refine lv_iconst (v := (-1)) hx hb dX6_takeBack_23 (by decide) ?_
      refine lv_icmp_eq (tgt := 30) hx hb dX6_takeBack_24 (by decide) (fun c_10 => ?_) (fun c_10 => ?_)
      · skip
        have hc_10 := zb_eq rfl (show ((-1) : Int32).toInt = (-1) by decide) c_10
        refine lv_aload_n hx hb dX6_takeBack_30 rfl (lv_at hl 0 rfl) ?_
        refine va_get (D := (dC, dI)) (ci := 6) (v := .ref (q 4)) (C := RX6) (T := TX6) (N := 12) hx hb htb inw6 hown hK.1 hP 0 rfl rfl 3 (by decide) (htb _ wmt1_173) (fun _ h9 => h9) rfl dX6_takeBack_31 ?_
        refine va_get (D := (dC, dI)) (ci := 0) (v := .ref (q 9)) (C := RX0) (T := TX0) (N := 9) hx hb htb inw0 hown hK.1 hP 4 rfl rfl 4 (by decide) (htb _ wmt1_39) (fun _ h9 => h9) rfl dX6_takeBack_34 ?_
        refine lv_iload_n hx hb dX6_takeBack_37 rfl (lv_at hl 1 rfl) ?_
        refine lv_aload_n hx hb dX6_takeBack_38 rfl (lv_at hl 0 rfl) ?_
        refine va_get (D := (dC, dI)) (ci := 6) (v := .int (z.1 0)) (C := RX6) (T := TX6) (N := 12) hx hb htb inw6 hown hK.1 hP 0 rfl rfl 7 (by decide) (htb _ wmt1_177) (fun _ h9 => h9) rfl dX6_takeBack_39 ?_
        refine lv_topi (fun x_11 ex_11 => ?_)
        have hx_11 : x_11.toInt = (z.1 0).toInt := by rw [ex_11]
        refine va_iast (D := (dC, dI)) hx hb hK.1 hP (hDa _) hS 9 0 rfl rfl (z_in (by omega)) dX6_takeBack_42 (fun H locs hP _ hS => ?_)
        obtain ⟨f_12, ef_12⟩ : ∃ x : Nat → Int32, x = upd (z.2.2.1 5) n.toNatClampNeg x_11 := ⟨_, rfl⟩
        have hP : va_P (dC, dI) vwCl (zX k q (sA z 5 f_12)) H := by rw [ef_12]; exact hP
        refine lv_iconst (v := 1) hx hb dX6_takeBack_43 (by decide) ?_
        exact W.iret (v := 1) hx hb hr (fun t ht hW => ⟨⟨1, (sA z 5 f_12), rfl, ⟨hI, tBack_ok (x := z.1 6) rfl (by omega) ex_9 (by omega) (by rw [ef_12, ex_11]; rfl)⟩, ⟨by rw [ht]; exact hP, hDa _⟩⟩, hS.F ht⟩) hS.2.2 dX6_takeBack_44
      · skip
        have hc_10 := zb_ne rfl (show ((-1) : Int32).toInt = (-1) by decide) c_10
        refine lv_bipush (v := (-3)) hx hb dX6_takeBack_27 (by decide) ?_
        exact W.iret (v := (-3)) hx hb hr (fun t ht hW => ⟨⟨(-3), z, rfl, ⟨hI, tBack_no (x := z.1 6) rfl (by omega) ex_9 (by omega) hT⟩, ⟨by rw [ht]; exact hP, hDa _⟩⟩, hS.F ht⟩) hS.2.2 dX6_takeBack_29
    · skip
      exact absurd c_8 (by decide)
  · skip
    replace e_7 : r_1 = 0 := e_7
    subst e_7
    replace h_6 : ¬ (0 ≤ n.toInt ∧ n.toInt < ((xA z).1 1).toInt) := h_6
    refine lv_if_ne (tgt := 14) hx hb dX6_takeBack_8 (by decide) (fun c_13 => ?_) (fun c_13 => ?_)
    · skip
      exact absurd c_13 (by decide)
    · skip
      refine lv_bipush (v := (-2)) hx hb dX6_takeBack_11 (by decide) ?_
      exact W.iret (v := (-2)) hx hb hr (fun t ht hW => ⟨⟨(-2), z, rfl, ⟨hI, tBack_bad (x := z.1 6) rfl (by omega) hT⟩, ⟨by rw [ht]; exact hP, hDa _⟩⟩, hS.F ht⟩) hS.2.2 dX6_takeBack_13
set_option maxHeartbeats 4000000 in
set_option maxRecDepth 100000 in
theorem c_X6_about (l : Launch) (dC : Nat → ClassId) (dI : Nat → Nat → Nat) (k : Nat → ClassId) (q : Nat → Nat) (z : ZS) (n : Int32) (w : Int32) (sz : Nat) (hI : XInv z) : Met l yX6_about (wz yX6_about cX6_about 3 (some .int)) ({ frames := 1, cells := 0, slots := 0, locals := 22 }) (va_Pc [.ref (q 0), .int n, .int w] (zPre dC dI k (zTX k) (zX k q z) sz)) (va_Qi (fun (r : Int32) (u : Unit) => True) (fun u t => zPost dC dI (va_A (zX k q z) sz) (zX k q z) t) (va_A (zX k q z) sz)) 0 0 (va_A (zX k q z) sz) := by
  refine Met.ofW (cc := cX6_about) (maxL := 3) (ret := (some .int)) (by decide) rfl ?_
  intro p e s m args below meth c s₁ B hml hv
  obtain ⟨rfl, hsz, hP, hK, hD0⟩ := hv
  have hx := B.exec
  have hb := B.bytes
  have hr := B.returns
  have hts := atoms_spec (ws := wz yX6_about cX6_about 3 (some .int)) B.pre
  have htb : ∀ w ∈ zw, w.before _ s = true := fun w h => hts w (List.mem_cons_of_mem _ h)
  have hown : s.vm.findClass RX6 = some m.cls := findClass_of_methodNamed B.named
  have hlocks := B.notSynchronized
  clear hts
  subst hsz
  have hD := hD0.self (sz := s.heap.size)
  generalize hAe : va_A (zX k q z) s.heap.size = A at hD ⊢
  have hA : ∀ q : Nat, s.heap.size ≤ q → A q := fun q h => by rw [← hAe]; exact Or.inr h
  have hDa : ∀ z9 : ZS, va_D A (zX k q z9) := fun z9 => va_D_adr (w := zX k q z) rfl hD
  have hl := lv_entry ([.ref (q 0), .int n, .int w]) (n := 3) (Nat.le_of_ble_eq_true rfl)
  rw [lg_entry_eq]
  generalize (lg_sl ([.ref (q 0), .int n, .int w]) ++ List.replicate (3 - (lg_sl ([.ref (q 0), .int n, .int w])).length) Slot.unset).toArray = ls at hl ⊢
  have hl : lv_has ls 3 [(0, .ref (q 0)), (1, .int n), (2, .int w)] := hl
  refine z_start2 (A := A) (w := (zX k q z)) hP (fun H locs hP hS => ?_)
  clear hD0 hAe
  have hT : trX z = trX z := rfl
  have hA2 := hI.1.1
  have hA3 := hI.1.2.1
  have hA7 : ((xA z).1 1).toInt = (z.1 6).toInt := rfl
  refine lv_aload_n hx hb dX6_about_0 rfl (lv_at hl 0 rfl) ?_
  refine va_get (D := (dC, dI)) (ci := 6) (v := .ref (q 4)) (C := RX6) (T := TX6) (N := 12) hx hb htb inw6 hown hK.1 hP 0 rfl rfl 3 (by decide) (htb _ wmt1_173) (fun _ h9 => h9) rfl dX6_about_1 ?_
  refine lv_iload_n hx hb dX6_about_4 rfl (lv_at hl 1 rfl) ?_
  refine zcS_i (w := (zX k q z)) (wc := (zA k (qof q 4) (xA z))) (va_runV (As := [.int n]) (rest := []) ⟨hx, hb, hml, hown, htb⟩ (c_X0_isThere l dC dI k (qof q 4) (xA z) n _ ) (cwV 1 htb (gzV wmt2_110 wmt2_111 wmt2_112 wmt1_2 wmt2_113) rfl rfl rfl (by decide +kernel) ⟨Nat.le_of_ble_eq_true rfl, Nat.le_of_ble_eq_true rfl⟩) (zp_V (ci := 0) (q0 := 4) hK hP (hDa _) [4, 5, 6, 7, 8, 9, 10, 11] rfl (by decide) rfl rfl) rfl rfl hl.1 rfl (lv_room (Nat.le_of_ble_eq_true rfl)) dX6_about_5 ⟨Nat.le_of_ble_eq_true rfl, Nat.le_of_ble_eq_true rfl⟩) hP (hDa _) hS hA [4, 5, 6, 7, 8, 9, 10, 11] rfl (fun _ => rfl) (fun r_1 u_2 H locs w_3 hP _ hS => ?_)
  have hP : va_P (dC, dI) vwCl (zX k q z) H := hP
  rcases w_3 with ⟨e_5, h_4⟩ | ⟨e_7, h_6⟩
  · skip
    replace e_5 : r_1 = 1 := e_5
    subst e_5
    replace h_4 : 0 ≤ n.toInt ∧ n.toInt < ((xA z).1 1).toInt := h_4
    refine lv_if_ne (tgt := 14) hx hb dX6_about_8 (by decide) (fun c_8 => ?_) (fun c_8 => ?_)
    · skip
      refine lv_iload_n hx hb dX6_about_14 rfl (lv_at hl 2 rfl) ?_
      rcases Decidable.em (w.toInt < 0 ∨ 5 < w.toInt) with sw_9 | sw_9
      · skip
        refine lv_tableOut (tgt := 123) hx hb dX6_about_15 sw_9 (by decide) ?_
        refine lv_bipush (v := (-2)) hx hb dX6_about_123 (by decide) ?_
        exact W.iret (v := (-2)) hx hb hr (fun t ht hW => ⟨⟨(-2), (), rfl, trivial, ⟨by rw [ht]; exact hP, hDa _⟩⟩, hS.F ht⟩) hS.2.2 dX6_about_125
      · skip
        have sw_10 : w = 0 ∨ w = 1 ∨ w = 2 ∨ w = 3 ∨ w = 4 ∨ w = 5 := by simp only [zi_eq, (by decide : (0 : Int32).toInt = 0), (by decide : (1 : Int32).toInt = 1), (by decide : (2 : Int32).toInt = 2), (by decide : (3 : Int32).toInt = 3), (by decide : (4 : Int32).toInt = 4), (by decide : (5 : Int32).toInt = 5)]; omega
        clear sw_9
        rcases sw_10 with rfl | rfl | rfl | rfl | rfl | rfl
        · skip
          refine lv_tableIn (off := 37) (tgt := 52) hx hb dX6_about_15 (by decide) (by decide) (by decide) (by decide) ?_
          refine lv_aload_n hx hb dX6_about_52 rfl (lv_at hl 0 rfl) ?_
          refine va_get (D := (dC, dI)) (ci := 6) (v := .ref (q 4)) (C := RX6) (T := TX6) (N := 12) hx hb htb inw6 hown hK.1 hP 0 rfl rfl 3 (by decide) (htb _ wmt1_173) (fun _ h9 => h9) rfl dX6_about_53 ?_
          refine va_get (D := (dC, dI)) (ci := 0) (v := .ref (q 5)) (C := RX0) (T := TX0) (N := 9) hx hb htb inw0 hown hK.1 hP 4 rfl rfl 0 (by decide) (htb _ wmt1_31) (fun _ h9 => h9) rfl dX6_about_56 ?_
          refine lv_iload_n hx hb dX6_about_59 rfl (lv_at hl 1 rfl) ?_
          refine va_iald (D := (dC, dI)) hx hb hK.1 hP 5 0 rfl rfl (z_in (by omega)) dX6_about_60 ?_
          refine lv_topi (fun x_11 ex_11 => ?_)
          exact W.iret (v := x_11) hx hb hr (fun t ht hW => ⟨⟨x_11, (), rfl, trivial, ⟨by rw [ht]; exact hP, hDa _⟩⟩, hS.F ht⟩) hS.2.2 dX6_about_61
        · skip
          refine lv_tableIn (off := 47) (tgt := 62) hx hb dX6_about_15 (by decide) (by decide) (by decide) (by decide) ?_
          refine lv_aload_n hx hb dX6_about_62 rfl (lv_at hl 0 rfl) ?_
          refine va_get (D := (dC, dI)) (ci := 6) (v := .ref (q 4)) (C := RX6) (T := TX6) (N := 12) hx hb htb inw6 hown hK.1 hP 0 rfl rfl 3 (by decide) (htb _ wmt1_173) (fun _ h9 => h9) rfl dX6_about_63 ?_
          refine va_get (D := (dC, dI)) (ci := 0) (v := .ref (q 6)) (C := RX0) (T := TX0) (N := 9) hx hb htb inw0 hown hK.1 hP 4 rfl rfl 1 (by decide) (htb _ wmt1_33) (fun _ h9 => h9) rfl dX6_about_66 ?_
          refine lv_iload_n hx hb dX6_about_69 rfl (lv_at hl 1 rfl) ?_
          refine va_iald (D := (dC, dI)) hx hb hK.1 hP 6 0 rfl rfl (z_in (by omega)) dX6_about_70 ?_
          refine lv_topi (fun x_12 ex_12 => ?_)
          exact W.iret (v := x_12) hx hb hr (fun t ht hW => ⟨⟨x_12, (), rfl, trivial, ⟨by rw [ht]; exact hP, hDa _⟩⟩, hS.F ht⟩) hS.2.2 dX6_about_71
        · skip
          refine lv_tableIn (off := 57) (tgt := 72) hx hb dX6_about_15 (by decide) (by decide) (by decide) (by decide) ?_
          refine lv_aload_n hx hb dX6_about_72 rfl (lv_at hl 0 rfl) ?_
          refine va_get (D := (dC, dI)) (ci := 6) (v := .ref (q 4)) (C := RX6) (T := TX6) (N := 12) hx hb htb inw6 hown hK.1 hP 0 rfl rfl 3 (by decide) (htb _ wmt1_173) (fun _ h9 => h9) rfl dX6_about_73 ?_
          refine va_get (D := (dC, dI)) (ci := 0) (v := .ref (q 7)) (C := RX0) (T := TX0) (N := 9) hx hb htb inw0 hown hK.1 hP 4 rfl rfl 2 (by decide) (htb _ wmt1_35) (fun _ h9 => h9) rfl dX6_about_76 ?_
          refine lv_iload_n hx hb dX6_about_79 rfl (lv_at hl 1 rfl) ?_
          refine va_iald (D := (dC, dI)) hx hb hK.1 hP 7 0 rfl rfl (z_in (by omega)) dX6_about_80 ?_
          refine lv_topi (fun x_13 ex_13 => ?_)
          exact W.iret (v := x_13) hx hb hr (fun t ht hW => ⟨⟨x_13, (), rfl, trivial, ⟨by rw [ht]; exact hP, hDa _⟩⟩, hS.F ht⟩) hS.2.2 dX6_about_81
        · skip
          refine lv_tableIn (off := 67) (tgt := 82) hx hb dX6_about_15 (by decide) (by decide) (by decide) (by decide) ?_
          refine lv_aload_n hx hb dX6_about_82 rfl (lv_at hl 0 rfl) ?_
          refine va_get (D := (dC, dI)) (ci := 6) (v := .ref (q 4)) (C := RX6) (T := TX6) (N := 12) hx hb htb inw6 hown hK.1 hP 0 rfl rfl 3 (by decide) (htb _ wmt1_173) (fun _ h9 => h9) rfl dX6_about_83 ?_
          refine va_get (D := (dC, dI)) (ci := 0) (v := .ref (q 8)) (C := RX0) (T := TX0) (N := 9) hx hb htb inw0 hown hK.1 hP 4 rfl rfl 3 (by decide) (htb _ wmt1_37) (fun _ h9 => h9) rfl dX6_about_86 ?_
          refine lv_iload_n hx hb dX6_about_89 rfl (lv_at hl 1 rfl) ?_
          refine va_iald (D := (dC, dI)) hx hb hK.1 hP 8 0 rfl rfl (z_in (by omega)) dX6_about_90 ?_
          refine lv_topi (fun x_14 ex_14 => ?_)
          exact W.iret (v := x_14) hx hb hr (fun t ht hW => ⟨⟨x_14, (), rfl, trivial, ⟨by rw [ht]; exact hP, hDa _⟩⟩, hS.F ht⟩) hS.2.2 dX6_about_91
        · skip
          refine lv_tableIn (off := 77) (tgt := 92) hx hb dX6_about_15 (by decide) (by decide) (by decide) (by decide) ?_
          refine lv_aload_n hx hb dX6_about_92 rfl (lv_at hl 0 rfl) ?_
          refine va_get (D := (dC, dI)) (ci := 6) (v := .ref (q 4)) (C := RX6) (T := TX6) (N := 12) hx hb htb inw6 hown hK.1 hP 0 rfl rfl 3 (by decide) (htb _ wmt1_173) (fun _ h9 => h9) rfl dX6_about_93 ?_
          refine va_get (D := (dC, dI)) (ci := 0) (v := .ref (q 9)) (C := RX0) (T := TX0) (N := 9) hx hb htb inw0 hown hK.1 hP 4 rfl rfl 4 (by decide) (htb _ wmt1_39) (fun _ h9 => h9) rfl dX6_about_96 ?_
          refine lv_iload_n hx hb dX6_about_99 rfl (lv_at hl 1 rfl) ?_
          refine va_iald (D := (dC, dI)) hx hb hK.1 hP 9 0 rfl rfl (z_in (by omega)) dX6_about_100 ?_
          refine lv_topi (fun x_15 ex_15 => ?_)
          exact W.iret (v := x_15) hx hb hr (fun t ht hW => ⟨⟨x_15, (), rfl, trivial, ⟨by rw [ht]; exact hP, hDa _⟩⟩, hS.F ht⟩) hS.2.2 dX6_about_101
        · skip
          refine lv_tableIn (off := 87) (tgt := 102) hx hb dX6_about_15 (by decide) (by decide) (by decide) (by decide) ?_
          refine lv_aload_n hx hb dX6_about_102 rfl (lv_at hl 0 rfl) ?_
          refine va_get (D := (dC, dI)) (ci := 6) (v := .ref (q 4)) (C := RX6) (T := TX6) (N := 12) hx hb htb inw6 hown hK.1 hP 0 rfl rfl 3 (by decide) (htb _ wmt1_173) (fun _ h9 => h9) rfl dX6_about_103 ?_
          refine lv_iload_n hx hb dX6_about_106 rfl (lv_at hl 1 rfl) ?_
          refine lv_aload_n hx hb dX6_about_107 rfl (lv_at hl 0 rfl) ?_
          refine zcA_i (w := (zX k q z)) (va_runV (As := []) (rest := [.int n, .ref (q 4)]) ⟨hx, hb, hml, hown, htb⟩ (c_X6_dayOfView l dC dI k q z _ hI) (cwV 0 htb (gzV wmt2_118 wmt2_120 wmp1_8 wmt1_1 wmt2_121) rfl rfl rfl (by decide +kernel) ⟨Nat.le_of_ble_eq_true rfl, Nat.le_of_ble_eq_true rfl⟩) (zpA_V (ci := 6) (q0 := 0) hK hP (hDa _) rfl rfl) rfl rfl hl.1 rfl (lv_room (Nat.le_of_ble_eq_true rfl)) dX6_about_108 ⟨Nat.le_of_ble_eq_true rfl, Nat.le_of_ble_eq_true rfl⟩) (hDa _) hS hA (fun r_16 u_17 H locs w_18 hP _ hS => ?_)
          refine zcS_i (w := (zX k q z)) (wc := (zA k (qof q 4) (xA z))) (va_runV (As := [.int n, .int r_16]) (rest := []) ⟨hx, hb, hml, hown, htb⟩ (c_X0_isKnown l dC dI k (qof q 4) (xA z) n r_16 _ (by omega)) (cwV 2 htb (gzV wmt2_122 wmt2_123 wmt2_124 wmt1_2 wmt2_125) rfl rfl rfl (by decide +kernel) ⟨Nat.le_of_ble_eq_true rfl, Nat.le_of_ble_eq_true rfl⟩) (zp_V (ci := 0) (q0 := 4) hK hP (hDa _) [4, 5, 6, 7, 8, 9, 10, 11] rfl (by decide) rfl rfl) rfl rfl hl.1 rfl (lv_room (Nat.le_of_ble_eq_true rfl)) dX6_about_111 ⟨Nat.le_of_ble_eq_true rfl, Nat.le_of_ble_eq_true rfl⟩) hP (hDa _) hS hA [4, 5, 6, 7, 8, 9, 10, 11] rfl (fun _ => rfl) (fun r_19 u_20 H locs w_21 hP _ hS => ?_)
          have hP : va_P (dC, dI) vwCl (zX k q z) H := hP
          refine lv_if_eq (tgt := 121) hx hb dX6_about_114 (by decide) (fun c_22 => ?_) (fun c_22 => ?_)
          · skip
            have hc_22 := zb_eq rfl (show (0 : Int32).toInt = 0 by decide) c_22
            refine lv_iconst (v := 0) hx hb dX6_about_121 (by decide) ?_
            exact W.iret (v := 0) hx hb hr (fun t ht hW => ⟨⟨0, (), rfl, trivial, ⟨by rw [ht]; exact hP, hDa _⟩⟩, hS.F ht⟩) hS.2.2 dX6_about_122
          · skip
            have hc_22 := zb_ne rfl (show (0 : Int32).toInt = 0 by decide) c_22
            refine lv_iconst (v := 1) hx hb dX6_about_117 (by decide) ?_
            refine lv_goto (tgt := 122) hx hb dX6_about_118 (by decide) ?_
            exact W.iret (v := 1) hx hb hr (fun t ht hW => ⟨⟨1, (), rfl, trivial, ⟨by rw [ht]; exact hP, hDa _⟩⟩, hS.F ht⟩) hS.2.2 dX6_about_122
    · skip
      exact absurd c_8 (by decide)
  · skip
    replace e_7 : r_1 = 0 := e_7
    subst e_7
    replace h_6 : ¬ (0 ≤ n.toInt ∧ n.toInt < ((xA z).1 1).toInt) := h_6
    refine lv_if_ne (tgt := 14) hx hb dX6_about_8 (by decide) (fun c_23 => ?_) (fun c_23 => ?_)
    · skip
      exact absurd c_23 (by decide)
    · skip
      refine lv_bipush (v := (-2)) hx hb dX6_about_11 (by decide) ?_
      exact W.iret (v := (-2)) hx hb hr (fun t ht hW => ⟨⟨(-2), (), rfl, trivial, ⟨by rw [ht]; exact hP, hDa _⟩⟩, hS.F ht⟩) hS.2.2 dX6_about_13
set_option maxHeartbeats 4000000 in
set_option maxRecDepth 100000 in
theorem c_X6_bytesOfDesigns (l : Launch) (dC : Nat → ClassId) (dI : Nat → Nat → Nat) (k : Nat → ClassId) (q : Nat → Nat) (z : ZS) (sz : Nat) (hI : XInv z) : Met l yX6_bytesOfDesigns (wz yX6_bytesOfDesigns cX6_bytesOfDesigns 3 (some .int)) ({ frames := 0, cells := 0, slots := 0, locals := 0 }) (va_Pc [.ref (q 0)] (zPre dC dI k (zTX k) (zX k q z) sz)) (va_Qi (fun (r : Int32) (u : Unit) => True) (fun u t => zPost dC dI (va_A (zX k q z) sz) (zX k q z) t) (va_A (zX k q z) sz)) 0 0 (va_A (zX k q z) sz) := by
  refine Met.ofW (cc := cX6_bytesOfDesigns) (maxL := 3) (ret := (some .int)) (by decide) rfl ?_
  intro p e s m args below meth c s₁ B hml hv
  obtain ⟨rfl, hsz, hP, hK, hD0⟩ := hv
  have hx := B.exec
  have hb := B.bytes
  have hr := B.returns
  have hts := atoms_spec (ws := wz yX6_bytesOfDesigns cX6_bytesOfDesigns 3 (some .int)) B.pre
  have htb : ∀ w ∈ zw, w.before _ s = true := fun w h => hts w (List.mem_cons_of_mem _ h)
  have hown : s.vm.findClass RX6 = some m.cls := findClass_of_methodNamed B.named
  have hlocks := B.notSynchronized
  clear hts
  subst hsz
  have hD := hD0.self (sz := s.heap.size)
  generalize hAe : va_A (zX k q z) s.heap.size = A at hD ⊢
  have hA : ∀ q : Nat, s.heap.size ≤ q → A q := fun q h => by rw [← hAe]; exact Or.inr h
  have hDa : ∀ z9 : ZS, va_D A (zX k q z9) := fun z9 => va_D_adr (w := zX k q z) rfl hD
  have hl := lv_entry ([.ref (q 0)]) (n := 3) (Nat.le_of_ble_eq_true rfl)
  rw [lg_entry_eq]
  generalize (lg_sl ([.ref (q 0)]) ++ List.replicate (3 - (lg_sl ([.ref (q 0)])).length) Slot.unset).toArray = ls at hl ⊢
  have hl : lv_has ls 3 [(0, .ref (q 0))] := hl
  refine z_start2 (A := A) (w := (zX k q z)) hP (fun H locs hP hS => ?_)
  clear hD0 hAe
  have hT : trX z = trX z := rfl
  refine lv_iconst (v := 0) hx hb dX6_bytesOfDesigns_0 (by decide) ?_
  refine lv_istore_n (lv' := [(1, .int 0), (0, .ref (q 0))]) hx hb dX6_bytesOfDesigns_1 rfl hl (by decide) rfl (fun ls hl => ?_)
  refine lv_iconst (v := 0) hx hb dX6_bytesOfDesigns_2 (by decide) ?_
  refine lv_istore_n (lv' := [(2, .int 0), (1, .int 0), (0, .ref (q 0))]) hx hb dX6_bytesOfDesigns_3 rfl hl (by decide) rfl (fun ls hl => ?_)
  obtain ⟨byt, ebyt⟩ : ∃ x : Int32, 0 = x := ⟨_, rfl⟩
  obtain ⟨i, ei⟩ : ∃ x : Int32, 0 = x := ⟨_, rfl⟩
  have hv4 : (0 ≤ i.toInt ∧ i.toInt ≤ 4) := by subst ebyt ei; exact (by decide)
  replace hl : lv_has ls 3 [(2, .int i), (1, .int byt), (0, .ref (q 0))] := by subst ebyt ei; exact hl
  clear ebyt ei
  obtain ⟨mm4, hm4⟩ : ∃ mm : Nat, mm = (4 - i.toInt).toNat := ⟨_, rfl⟩
  refine z_cut2 hP hS hl ?_
  clear hl hP
  intro H locs ls hP hS hl
  induction mm4 using Nat.strongRecOn generalizing byt i H locs ls with
  | _ mm4 ih4 =>
    have hi := hv4
    refine lv_iload_n hx hb dX6_bytesOfDesigns_4 rfl (lv_at hl 0 rfl) ?_
    refine lv_iconst (v := 4) hx hb dX6_bytesOfDesigns_5 (by decide) ?_
    refine lv_icmp_ge (tgt := 27) hx hb dX6_bytesOfDesigns_6 (by decide) (fun c_1 => ?_) (fun c_1 => ?_)
    · skip
      have hc_1 := zb_le (show (4 : Int32).toInt = 4 by decide) rfl c_1
      refine lv_iload_n hx hb dX6_bytesOfDesigns_27 rfl (lv_at hl 1 rfl) ?_
      exact W.iret (v := byt) hx hb hr (fun t ht hW => ⟨⟨byt, (), rfl, trivial, ⟨by rw [ht]; exact hP, hDa _⟩⟩, hS.F ht⟩) hS.2.2 dX6_bytesOfDesigns_28
    · skip
      have hc_1 := zb_nle (show (4 : Int32).toInt = 4 by decide) rfl c_1
      refine lv_iload_n hx hb dX6_bytesOfDesigns_9 rfl (lv_at hl 1 rfl) ?_
      refine lv_aload_n hx hb dX6_bytesOfDesigns_10 rfl (lv_at hl 2 rfl) ?_
      refine va_get (D := (dC, dI)) (ci := 6) (v := .ref (q 1)) (C := RX6) (T := TX6) (N := 12) hx hb htb inw6 hown hK.1 hP 0 rfl rfl 0 (by decide) (htb _ wmt1_170) (fun _ h9 => h9) rfl dX6_bytesOfDesigns_11 ?_
      refine lv_iload_n hx hb dX6_bytesOfDesigns_14 rfl (lv_at hl 0 rfl) ?_
      refine va_aldq (D := (dC, dI)) hx hb hK.1 hP 1 3 rfl rfl (z_in (by omega)) dX6_bytesOfDesigns_15 ?_
      obtain ⟨d_2, ed_2⟩ : ∃ x : Nat, x = i.toNatClampNeg := ⟨_, rfl⟩
      have hd_2 : d_2 < 4 := by rw [ed_2]; exact z_cl4 (by omega)
      refine z_top (v2 := .ref (qD q d_2 0)) (zgD_at2 ed_2 hd_2) ?_
      refine va_get (D := (dC, dI)) (ci := 1) (v := .int (z.1 (10 + 6 * d_2 + 1))) (C := RX1) (T := TX1) (N := 9) hx hb htb inw1 hown hK.1 hP (16 + 3 * d_2) (zX_D0 hd_2) rfl 4 (by decide) (htb _ wmt1_123) (fun _ h9 => h9) rfl dX6_bytesOfDesigns_16 ?_
      refine lv_topi (fun x_3 ex_3 => ?_)
      have hx_3 : x_3.toInt = (z.1 (10 + 6 * d_2 + 1)).toInt := by rw [ex_3]
      refine lv_iadd hx hb dX6_bytesOfDesigns_19 ?_
      refine lv_topi (fun x_4 ex_4 => ?_)
      refine lv_istore_n (lv' := [(1, .int x_4), (2, .int i), (0, .ref (q 0))]) hx hb dX6_bytesOfDesigns_20 rfl hl (by decide) rfl (fun ls hl => ?_)
      obtain ⟨x_5, ex_5⟩ : ∃ y : Int32, y = i + 1 := ⟨_, rfl⟩
      have hx_5 : x_5.toInt = i.toInt + 1 := z_add ex_5 rfl (show (1 : Int32).toInt = 1 by decide) (by omega)
      refine lv_iinc (v := x_5) (lv' := [(2, .int x_5), (1, .int x_4), (0, .ref (q 0))]) hx hb dX6_bytesOfDesigns_21 hl (k := 1) rfl (by rw [ex_5]; rfl) (by decide) rfl (fun ls hl => ?_)
      refine lv_goto (tgt := 4) hx hb dX6_bytesOfDesigns_24 (by decide) ?_
      exact ih4 ((4 - x_5.toInt).toNat) (by omega) x_4 x_5 (show 0 ≤ x_5.toInt ∧ x_5.toInt ≤ 4 by omega) rfl H locs ls hP hS (lv_sub hl [0, 1, 2] rfl)
set_option maxHeartbeats 4000000 in
set_option maxRecDepth 100000 in
theorem c_X6_count (l : Launch) (dC : Nat → ClassId) (dI : Nat → Nat → Nat) (k : Nat → ClassId) (q : Nat → Nat) (z : ZS) (w : Int32) (sz : Nat) (hI : XInv z) : Met l yX6_count (wz yX6_count cX6_count 2 (some .int)) ({ frames := 2, cells := 0, slots := 0, locals := 46 }) (va_Pc [.ref (q 0), .int w] (zPre dC dI k (zTX k) (zX k q z) sz)) (va_Qi (fun (r : Int32) (u : Unit) => True) (fun u t => zPost dC dI (va_A (zX k q z) sz) (zX k q z) t) (va_A (zX k q z) sz)) 0 0 (va_A (zX k q z) sz) := by
  refine Met.ofW (cc := cX6_count) (maxL := 2) (ret := (some .int)) (by decide) rfl ?_
  intro p e s m args below meth c s₁ B hml hv
  obtain ⟨rfl, hsz, hP, hK, hD0⟩ := hv
  have hx := B.exec
  have hb := B.bytes
  have hr := B.returns
  have hts := atoms_spec (ws := wz yX6_count cX6_count 2 (some .int)) B.pre
  have htb : ∀ w ∈ zw, w.before _ s = true := fun w h => hts w (List.mem_cons_of_mem _ h)
  have hown : s.vm.findClass RX6 = some m.cls := findClass_of_methodNamed B.named
  have hlocks := B.notSynchronized
  clear hts
  subst hsz
  have hD := hD0.self (sz := s.heap.size)
  generalize hAe : va_A (zX k q z) s.heap.size = A at hD ⊢
  have hA : ∀ q : Nat, s.heap.size ≤ q → A q := fun q h => by rw [← hAe]; exact Or.inr h
  have hDa : ∀ z9 : ZS, va_D A (zX k q z9) := fun z9 => va_D_adr (w := zX k q z) rfl hD
  have hl := lv_entry ([.ref (q 0), .int w]) (n := 2) (Nat.le_of_ble_eq_true rfl)
  rw [lg_entry_eq]
  generalize (lg_sl ([.ref (q 0), .int w]) ++ List.replicate (2 - (lg_sl ([.ref (q 0), .int w])).length) Slot.unset).toArray = ls at hl ⊢
  have hl : lv_has ls 2 [(0, .ref (q 0)), (1, .int w)] := hl
  refine z_start2 (A := A) (w := (zX k q z)) hP (fun H locs hP hS => ?_)
  clear hD0 hAe
  have hT : trX z = trX z := rfl
  refine lv_iload_n hx hb dX6_count_0 rfl (lv_at hl 1 rfl) ?_
  rcases Decidable.em (w.toInt < 0 ∨ 8 < w.toInt) with sw_1 | sw_1
  · skip
    refine lv_tableOut (tgt := 116) hx hb dX6_count_1 sw_1 (by decide) ?_
    refine lv_bipush (v := (-2)) hx hb dX6_count_116 (by decide) ?_
    exact W.iret (v := (-2)) hx hb hr (fun t ht hW => ⟨⟨(-2), (), rfl, trivial, ⟨by rw [ht]; exact hP, hDa _⟩⟩, hS.F ht⟩) hS.2.2 dX6_count_118
  · skip
    have sw_2 : w = 0 ∨ w = 1 ∨ w = 2 ∨ w = 3 ∨ w = 4 ∨ w = 5 ∨ w = 6 ∨ w = 7 ∨ w = 8 := by simp only [zi_eq, (by decide : (0 : Int32).toInt = 0), (by decide : (1 : Int32).toInt = 1), (by decide : (2 : Int32).toInt = 2), (by decide : (3 : Int32).toInt = 3), (by decide : (4 : Int32).toInt = 4), (by decide : (5 : Int32).toInt = 5), (by decide : (6 : Int32).toInt = 6), (by decide : (7 : Int32).toInt = 7), (by decide : (8 : Int32).toInt = 8)]; omega
    clear sw_1
    rcases sw_2 with rfl | rfl | rfl | rfl | rfl | rfl | rfl | rfl | rfl
    · skip
      refine lv_tableIn (off := 51) (tgt := 52) hx hb dX6_count_1 (by decide) (by decide) (by decide) (by decide) ?_
      refine lv_aload_n hx hb dX6_count_52 rfl (lv_at hl 0 rfl) ?_
      refine va_get (D := (dC, dI)) (ci := 6) (v := .int (z.1 0)) (C := RX6) (T := TX6) (N := 12) hx hb htb inw6 hown hK.1 hP 0 rfl rfl 7 (by decide) (htb _ wmt1_177) (fun _ h9 => h9) rfl dX6_count_53 ?_
      refine lv_topi (fun x_3 ex_3 => ?_)
      have hx_3 : x_3.toInt = (z.1 0).toInt := by rw [ex_3]
      exact W.iret (v := x_3) hx hb hr (fun t ht hW => ⟨⟨x_3, (), rfl, trivial, ⟨by rw [ht]; exact hP, hDa _⟩⟩, hS.F ht⟩) hS.2.2 dX6_count_56
    · skip
      refine lv_tableIn (off := 56) (tgt := 57) hx hb dX6_count_1 (by decide) (by decide) (by decide) (by decide) ?_
      refine lv_aload_n hx hb dX6_count_57 rfl (lv_at hl 0 rfl) ?_
      refine va_get (D := (dC, dI)) (ci := 6) (v := .ref (q 4)) (C := RX6) (T := TX6) (N := 12) hx hb htb inw6 hown hK.1 hP 0 rfl rfl 3 (by decide) (htb _ wmt1_173) (fun _ h9 => h9) rfl dX6_count_58 ?_
      refine va_get (D := (dC, dI)) (ci := 0) (v := .int (z.1 6)) (C := RX0) (T := TX0) (N := 9) hx hb htb inw0 hown hK.1 hP 4 rfl rfl 8 (by decide) (htb _ wmt1_47) (fun _ h9 => h9) rfl dX6_count_61 ?_
      refine lv_topi (fun x_4 ex_4 => ?_)
      have hx_4 : x_4.toInt = (z.1 6).toInt := by rw [ex_4]
      exact W.iret (v := x_4) hx hb hr (fun t ht hW => ⟨⟨x_4, (), rfl, trivial, ⟨by rw [ht]; exact hP, hDa _⟩⟩, hS.F ht⟩) hS.2.2 dX6_count_64
    · skip
      refine lv_tableIn (off := 64) (tgt := 65) hx hb dX6_count_1 (by decide) (by decide) (by decide) (by decide) ?_
      refine lv_aload_n hx hb dX6_count_65 rfl (lv_at hl 0 rfl) ?_
      refine va_get (D := (dC, dI)) (ci := 6) (v := .ref (q 4)) (C := RX6) (T := TX6) (N := 12) hx hb htb inw6 hown hK.1 hP 0 rfl rfl 3 (by decide) (htb _ wmt1_173) (fun _ h9 => h9) rfl dX6_count_66 ?_
      refine lv_aload_n hx hb dX6_count_69 rfl (lv_at hl 0 rfl) ?_
      refine zcA_i (w := (zX k q z)) (va_runV (As := []) (rest := [.ref (q 4)]) ⟨hx, hb, hml, hown, htb⟩ (c_X6_dayOfView l dC dI k q z _ hI) (cwV 0 htb (gzV wmt2_118 wmt2_120 wmp1_8 wmt1_1 wmt2_121) rfl rfl rfl (by decide +kernel) ⟨Nat.le_of_ble_eq_true rfl, Nat.le_of_ble_eq_true rfl⟩) (zpA_V (ci := 6) (q0 := 0) hK hP (hDa _) rfl rfl) rfl rfl hl.1 rfl (lv_room (Nat.le_of_ble_eq_true rfl)) dX6_count_70 ⟨Nat.le_of_ble_eq_true rfl, Nat.le_of_ble_eq_true rfl⟩) (hDa _) hS hA (fun r_5 u_6 H locs w_7 hP _ hS => ?_)
      refine lv_iconst (v := 0) hx hb dX6_count_73 (by decide) ?_
      refine zcS_i (w := (zX k q z)) (wc := (zA k (qof q 4) (xA z))) (va_runV (As := [.int r_5, .int 0]) (rest := []) ⟨hx, hb, hml, hown, htb⟩ (c_X0_knownOnes l dC dI k (qof q 4) (xA z) r_5 0 _ hI.1) (cwV 2 htb (gzV wmt3_140 wmt3_141 wmt3_142 wmt1_2 wmt3_143) rfl rfl rfl (by decide +kernel) ⟨Nat.le_of_ble_eq_true rfl, Nat.le_of_ble_eq_true rfl⟩) (zp_V (ci := 0) (q0 := 4) hK hP (hDa _) [4, 5, 6, 7, 8, 9, 10, 11] rfl (by decide) rfl rfl) rfl rfl hl.1 rfl (lv_room (Nat.le_of_ble_eq_true rfl)) dX6_count_74 ⟨Nat.le_of_ble_eq_true rfl, Nat.le_of_ble_eq_true rfl⟩) hP (hDa _) hS hA [4, 5, 6, 7, 8, 9, 10, 11] rfl (fun _ => rfl) (fun r_8 u_9 H locs w_10 hP _ hS => ?_)
      have hP : va_P (dC, dI) vwCl (zX k q z) H := hP
      exact W.iret (v := r_8) hx hb hr (fun t ht hW => ⟨⟨r_8, (), rfl, trivial, ⟨by rw [ht]; exact hP, hDa _⟩⟩, hS.F ht⟩) hS.2.2 dX6_count_77
    · skip
      refine lv_tableIn (off := 77) (tgt := 78) hx hb dX6_count_1 (by decide) (by decide) (by decide) (by decide) ?_
      refine lv_aload_n hx hb dX6_count_78 rfl (lv_at hl 0 rfl) ?_
      refine va_get (D := (dC, dI)) (ci := 6) (v := .ref (q 4)) (C := RX6) (T := TX6) (N := 12) hx hb htb inw6 hown hK.1 hP 0 rfl rfl 3 (by decide) (htb _ wmt1_173) (fun _ h9 => h9) rfl dX6_count_79 ?_
      refine lv_aload_n hx hb dX6_count_82 rfl (lv_at hl 0 rfl) ?_
      refine zcA_i (w := (zX k q z)) (va_runV (As := []) (rest := [.ref (q 4)]) ⟨hx, hb, hml, hown, htb⟩ (c_X6_dayOfView l dC dI k q z _ hI) (cwV 0 htb (gzV wmt2_118 wmt2_120 wmp1_8 wmt1_1 wmt2_121) rfl rfl rfl (by decide +kernel) ⟨Nat.le_of_ble_eq_true rfl, Nat.le_of_ble_eq_true rfl⟩) (zpA_V (ci := 6) (q0 := 0) hK hP (hDa _) rfl rfl) rfl rfl hl.1 rfl (lv_room (Nat.le_of_ble_eq_true rfl)) dX6_count_83 ⟨Nat.le_of_ble_eq_true rfl, Nat.le_of_ble_eq_true rfl⟩) (hDa _) hS hA (fun r_11 u_12 H locs w_13 hP _ hS => ?_)
      refine lv_iconst (v := 1) hx hb dX6_count_86 (by decide) ?_
      refine zcS_i (w := (zX k q z)) (wc := (zA k (qof q 4) (xA z))) (va_runV (As := [.int r_11, .int 1]) (rest := []) ⟨hx, hb, hml, hown, htb⟩ (c_X0_knownOnes l dC dI k (qof q 4) (xA z) r_11 1 _ hI.1) (cwV 2 htb (gzV wmt3_140 wmt3_141 wmt3_142 wmt1_2 wmt3_143) rfl rfl rfl (by decide +kernel) ⟨Nat.le_of_ble_eq_true rfl, Nat.le_of_ble_eq_true rfl⟩) (zp_V (ci := 0) (q0 := 4) hK hP (hDa _) [4, 5, 6, 7, 8, 9, 10, 11] rfl (by decide) rfl rfl) rfl rfl hl.1 rfl (lv_room (Nat.le_of_ble_eq_true rfl)) dX6_count_87 ⟨Nat.le_of_ble_eq_true rfl, Nat.le_of_ble_eq_true rfl⟩) hP (hDa _) hS hA [4, 5, 6, 7, 8, 9, 10, 11] rfl (fun _ => rfl) (fun r_14 u_15 H locs w_16 hP _ hS => ?_)
      have hP : va_P (dC, dI) vwCl (zX k q z) H := hP
      exact W.iret (v := r_14) hx hb hr (fun t ht hW => ⟨⟨r_14, (), rfl, trivial, ⟨by rw [ht]; exact hP, hDa _⟩⟩, hS.F ht⟩) hS.2.2 dX6_count_90
    · skip
      refine lv_tableIn (off := 90) (tgt := 91) hx hb dX6_count_1 (by decide) (by decide) (by decide) (by decide) ?_
      refine lv_aload_n hx hb dX6_count_91 rfl (lv_at hl 0 rfl) ?_
      refine zcA_i (w := (zX k q z)) (va_runV (As := []) (rest := []) ⟨hx, hb, hml, hown, htb⟩ (c_X6_bytesOfDesigns l dC dI k q z _ hI) (cwV 0 htb (gzV wmt3_144 wmt3_146 wmp2_5 wmt1_1 wmt3_147) rfl rfl rfl (by decide +kernel) ⟨Nat.le_of_ble_eq_true rfl, Nat.le_of_ble_eq_true rfl⟩) (zpA_V (ci := 6) (q0 := 0) hK hP (hDa _) rfl rfl) rfl rfl hl.1 rfl (lv_room (Nat.le_of_ble_eq_true rfl)) dX6_count_92 ⟨Nat.le_of_ble_eq_true rfl, Nat.le_of_ble_eq_true rfl⟩) (hDa _) hS hA (fun r_17 u_18 H locs w_19 hP _ hS => ?_)
      exact W.iret (v := r_17) hx hb hr (fun t ht hW => ⟨⟨r_17, (), rfl, trivial, ⟨by rw [ht]; exact hP, hDa _⟩⟩, hS.F ht⟩) hS.2.2 dX6_count_95
    · skip
      refine lv_tableIn (off := 95) (tgt := 96) hx hb dX6_count_1 (by decide) (by decide) (by decide) (by decide) ?_
      refine lv_aload_n hx hb dX6_count_96 rfl (lv_at hl 0 rfl) ?_
      refine va_get (D := (dC, dI)) (ci := 6) (v := .int (z.1 2)) (C := RX6) (T := TX6) (N := 12) hx hb htb inw6 hown hK.1 hP 0 rfl rfl 9 (by decide) (htb _ wmt1_179) (fun _ h9 => h9) rfl dX6_count_97 ?_
      refine lv_topi (fun x_20 ex_20 => ?_)
      have hx_20 : x_20.toInt = (z.1 2).toInt := by rw [ex_20]
      exact W.iret (v := x_20) hx hb hr (fun t ht hW => ⟨⟨x_20, (), rfl, trivial, ⟨by rw [ht]; exact hP, hDa _⟩⟩, hS.F ht⟩) hS.2.2 dX6_count_100
    · skip
      refine lv_tableIn (off := 100) (tgt := 101) hx hb dX6_count_1 (by decide) (by decide) (by decide) (by decide) ?_
      refine lv_aload_n hx hb dX6_count_101 rfl (lv_at hl 0 rfl) ?_
      refine va_get (D := (dC, dI)) (ci := 6) (v := .int (z.1 3)) (C := RX6) (T := TX6) (N := 12) hx hb htb inw6 hown hK.1 hP 0 rfl rfl 10 (by decide) (htb _ wmt1_180) (fun _ h9 => h9) rfl dX6_count_102 ?_
      refine lv_topi (fun x_21 ex_21 => ?_)
      have hx_21 : x_21.toInt = (z.1 3).toInt := by rw [ex_21]
      exact W.iret (v := x_21) hx hb hr (fun t ht hW => ⟨⟨x_21, (), rfl, trivial, ⟨by rw [ht]; exact hP, hDa _⟩⟩, hS.F ht⟩) hS.2.2 dX6_count_105
    · skip
      refine lv_tableIn (off := 105) (tgt := 106) hx hb dX6_count_1 (by decide) (by decide) (by decide) (by decide) ?_
      refine lv_aload_n hx hb dX6_count_106 rfl (lv_at hl 0 rfl) ?_
      refine va_get (D := (dC, dI)) (ci := 6) (v := .int (z.1 1)) (C := RX6) (T := TX6) (N := 12) hx hb htb inw6 hown hK.1 hP 0 rfl rfl 8 (by decide) (htb _ wmt1_178) (fun _ h9 => h9) rfl dX6_count_107 ?_
      refine lv_topi (fun x_22 ex_22 => ?_)
      have hx_22 : x_22.toInt = (z.1 1).toInt := by rw [ex_22]
      exact W.iret (v := x_22) hx hb hr (fun t ht hW => ⟨⟨x_22, (), rfl, trivial, ⟨by rw [ht]; exact hP, hDa _⟩⟩, hS.F ht⟩) hS.2.2 dX6_count_110
    · skip
      refine lv_tableIn (off := 110) (tgt := 111) hx hb dX6_count_1 (by decide) (by decide) (by decide) (by decide) ?_
      refine lv_aload_n hx hb dX6_count_111 rfl (lv_at hl 0 rfl) ?_
      refine va_get (D := (dC, dI)) (ci := 6) (v := .int (z.1 4)) (C := RX6) (T := TX6) (N := 12) hx hb htb inw6 hown hK.1 hP 0 rfl rfl 11 (by decide) (htb _ wmt1_181) (fun _ h9 => h9) rfl dX6_count_112 ?_
      refine lv_topi (fun x_23 ex_23 => ?_)
      have hx_23 : x_23.toInt = (z.1 4).toInt := by rw [ex_23]
      exact W.iret (v := x_23) hx hb hr (fun t ht hW => ⟨⟨x_23, (), rfl, trivial, ⟨by rw [ht]; exact hP, hDa _⟩⟩, hS.F ht⟩) hS.2.2 dX6_count_115
set_option maxHeartbeats 4000000 in
set_option maxRecDepth 100000 in
theorem c_X6_multiplyByAnswer (l : Launch) (dC : Nat → ClassId) (dI : Nat → Nat → Nat) (k : Nat → ClassId) (q : Nat → Nat) (z : ZS) (d0 : Nat) (y : Int32) (sz : Nat) (hI : XInv z) (hd0 : d0 < 4) : Met l yX6_multiplyByAnswer (wz yX6_multiplyByAnswer cX6_multiplyByAnswer 3 none) ({ frames := 3, cells := 0, slots := 0, locals := 69 }) (va_Pc [.ref (q 0), .ref (qD q d0 0), .int y] (zPre dC dI k (zTX k) (zX k q z) sz)) (va_Qv (fun (u : ZS) => (XInv u) ∧ (trX u = trX z) ∧ (u.1 = z.1) ∧ (u.2.2 = z.2.2)) (fun u t => zPost dC dI (va_A (zX k q z) sz) (zX k q u) t) (va_A (zX k q z) sz)) 0 0 (va_A (zX k q z) sz) := by
  refine Met.ofW (cc := cX6_multiplyByAnswer) (maxL := 3) (ret := none) (by decide) rfl ?_
  intro p e s m args below meth c s₁ B hml hv
  obtain ⟨rfl, hsz, hP, hK, hD0⟩ := hv
  have hx := B.exec
  have hb := B.bytes
  have hr := B.returns
  have hts := atoms_spec (ws := wz yX6_multiplyByAnswer cX6_multiplyByAnswer 3 none) B.pre
  have htb : ∀ w ∈ zw, w.before _ s = true := fun w h => hts w (List.mem_cons_of_mem _ h)
  have hown : s.vm.findClass RX6 = some m.cls := findClass_of_methodNamed B.named
  have hlocks := B.notSynchronized
  clear hts
  subst hsz
  have hD := hD0.self (sz := s.heap.size)
  generalize hAe : va_A (zX k q z) s.heap.size = A at hD ⊢
  have hA : ∀ q : Nat, s.heap.size ≤ q → A q := fun q h => by rw [← hAe]; exact Or.inr h
  have hDa : ∀ z9 : ZS, va_D A (zX k q z9) := fun z9 => va_D_adr (w := zX k q z) rfl hD
  have hl := lv_entry ([.ref (q 0), .ref (qD q d0 0), .int y]) (n := 3) (Nat.le_of_ble_eq_true rfl)
  rw [lg_entry_eq]
  generalize (lg_sl ([.ref (q 0), .ref (qD q d0 0), .int y]) ++ List.replicate (3 - (lg_sl ([.ref (q 0), .ref (qD q d0 0), .int y])).length) Slot.unset).toArray = ls at hl ⊢
  have hl : lv_has ls 3 [(0, .ref (q 0)), (1, .ref (qD q d0 0)), (2, .int y)] := hl
  refine z_start2 (A := A) (w := (zX k q z)) hP (fun H locs hP hS => ?_)
  clear hD0 hAe
  have hT : trX z = trX z := rfl
  refine lv_aload_n hx hb dX6_multiplyByAnswer_0 rfl (lv_at hl 0 rfl) ?_
  refine va_get (D := (dC, dI)) (ci := 6) (v := .ref (q 15)) (C := RX6) (T := TX6) (N := 12) hx hb htb inw6 hown hK.1 hP 0 rfl rfl 6 (by decide) (htb _ wmt1_176) (fun _ h9 => h9) rfl dX6_multiplyByAnswer_1 ?_
  refine lv_aload_n hx hb dX6_multiplyByAnswer_4 rfl (lv_at hl 0 rfl) ?_
  refine va_get (D := (dC, dI)) (ci := 6) (v := .ref (q 15)) (C := RX6) (T := TX6) (N := 12) hx hb htb inw6 hown hK.1 hP 0 rfl rfl 6 (by decide) (htb _ wmt1_176) (fun _ h9 => h9) rfl dX6_multiplyByAnswer_5 ?_
  refine va_get (D := (dC, dI)) (ci := 2) (v := .long (z.2.1 0)) (C := RX2) (T := TX2) (N := 2) hx hb htb inw2 hown hK.1 hP 15 rfl rfl 0 (by decide) (htb _ wmt1_104) (fun _ h9 => h9) rfl dX6_multiplyByAnswer_8 ?_
  refine lv_topl (fun x_1 ex_1 => ?_)
  have hx_1 : x_1.toInt = (z.2.1 0).toInt := by rw [ex_1]
  refine lv_aload_n hx hb dX6_multiplyByAnswer_11 rfl (lv_at hl 1 rfl) ?_
  refine lv_iload_n hx hb dX6_multiplyByAnswer_12 rfl (lv_at hl 2 rfl) ?_
  refine zcS_l (w := (zX k q z)) (wc := (zD k (qD q d0) (xD z d0))) (va_runV (As := [.int y]) (rest := [.long x_1, .ref (q 15)]) ⟨hx, hb, hml, hown, htb⟩ (c_X1_lotsIfHas l dC dI k (qD q d0) (xD z d0) y _ ) (cwV 1 htb (gzV wmt2_232 wmt2_188 wmt2_189 wmt1_6 wmt2_190) rfl rfl rfl (by decide +kernel) ⟨Nat.le_of_ble_eq_true rfl, Nat.le_of_ble_eq_true rfl⟩) (zp_V (ci := 1) (q0 := (16 + 3 * d0)) hK hP (hDa _) [16 + 3 * d0, 17 + 3 * d0, 18 + 3 * d0] (zX_DC hd0) (zX_ndD hd0) rfl (zX_D0 hd0)) rfl rfl hl.1 rfl (lv_room (Nat.le_of_ble_eq_true rfl)) dX6_multiplyByAnswer_13 ⟨Nat.le_of_ble_eq_true rfl, Nat.le_of_ble_eq_true rfl⟩) hP (hDa _) hS hA [16 + 3 * d0, 17 + 3 * d0, 18 + 3 * d0] (zX_DC hd0) (fun _ => rfl) (fun r_2 u_3 H locs w_4 hP _ hS => ?_)
  have hP : va_P (dC, dI) vwCl (zX k q z) H := (zX_Dkeep hd0) ▸ hP
  refine lv_lmul hx hb dX6_multiplyByAnswer_16 ?_
  refine lv_topl (fun x_5 ex_5 => ?_)
  refine lv_aload_n hx hb dX6_multiplyByAnswer_17 rfl (lv_at hl 0 rfl) ?_
  refine va_get (D := (dC, dI)) (ci := 6) (v := .ref (q 15)) (C := RX6) (T := TX6) (N := 12) hx hb htb inw6 hown hK.1 hP 0 rfl rfl 6 (by decide) (htb _ wmt1_176) (fun _ h9 => h9) rfl dX6_multiplyByAnswer_18 ?_
  refine va_get (D := (dC, dI)) (ci := 2) (v := .long (z.2.1 1)) (C := RX2) (T := TX2) (N := 2) hx hb htb inw2 hown hK.1 hP 15 rfl rfl 1 (by decide) (htb _ wmt1_106) (fun _ h9 => h9) rfl dX6_multiplyByAnswer_21 ?_
  refine lv_topl (fun x_6 ex_6 => ?_)
  have hx_6 : x_6.toInt = (z.2.1 1).toInt := by rw [ex_6]
  refine lv_aload_n hx hb dX6_multiplyByAnswer_24 rfl (lv_at hl 1 rfl) ?_
  refine lv_iload_n hx hb dX6_multiplyByAnswer_25 rfl (lv_at hl 2 rfl) ?_
  refine zcS_l (w := (zX k q z)) (wc := (zD k (qD q d0) (xD z d0))) (va_runV (As := [.int y]) (rest := [.long x_6, .long x_5, .ref (q 15)]) ⟨hx, hb, hml, hown, htb⟩ (c_X1_lotsIfHasNot l dC dI k (qD q d0) (xD z d0) y _ ) (cwV 1 htb (gzV wmt2_231 wmt2_192 wmt2_193 wmt1_6 wmt2_194) rfl rfl rfl (by decide +kernel) ⟨Nat.le_of_ble_eq_true rfl, Nat.le_of_ble_eq_true rfl⟩) (zp_V (ci := 1) (q0 := (16 + 3 * d0)) hK hP (hDa _) [16 + 3 * d0, 17 + 3 * d0, 18 + 3 * d0] (zX_DC hd0) (zX_ndD hd0) rfl (zX_D0 hd0)) rfl rfl hl.1 rfl (lv_room (Nat.le_of_ble_eq_true rfl)) dX6_multiplyByAnswer_26 ⟨Nat.le_of_ble_eq_true rfl, Nat.le_of_ble_eq_true rfl⟩) hP (hDa _) hS hA [16 + 3 * d0, 17 + 3 * d0, 18 + 3 * d0] (zX_DC hd0) (fun _ => rfl) (fun r_7 u_8 H locs w_9 hP _ hS => ?_)
  have hP : va_P (dC, dI) vwCl (zX k q z) H := (zX_Dkeep hd0) ▸ hP
  refine lv_lmul hx hb dX6_multiplyByAnswer_29 ?_
  refine lv_topl (fun x_10 ex_10 => ?_)
  refine zcS_v (w := (zX k q z)) (wc := (zF k (qof q 15) (xF z))) (va_runV (As := [.long x_5, .long x_10]) (rest := []) ⟨hx, hb, hml, hown, htb⟩ (c_X2_become l dC dI k (qof q 15) (xF z) x_5 x_10 _ ) (cwV 2 htb (gzV wmt2_56 wmt2_57 wmt2_58 wmt1_5 wmt2_59) rfl rfl rfl (by decide +kernel) ⟨Nat.le_of_ble_eq_true rfl, Nat.le_of_ble_eq_true rfl⟩) (zp_V (ci := 2) (q0 := 15) hK hP (hDa _) [15] rfl (by decide) rfl rfl) rfl rfl hl.1 rfl (lv_room (Nat.le_of_ble_eq_true rfl)) dX6_multiplyByAnswer_30 ⟨Nat.le_of_ble_eq_true rfl, Nat.le_of_ble_eq_true rfl⟩) hP (hDa _) hS hA [15] rfl (fun _ => rfl) (fun u_12 H locs w_13 hP _ hS => ?_)
  have hP : va_P (dC, dI) vwCl (zX k q (sJ (sJ z 0 (u_12.2.1 0)) 1 (u_12.2.1 1))) H := hP
  exact W.vret hx hb hr (fun t ht hW => ⟨⟨(sJ (sJ z 0 (u_12.2.1 0)) 1 (u_12.2.1 1)), rfl, ⟨hI, hT, rfl, rfl⟩, ⟨by rw [ht]; exact hP, hDa _⟩⟩, hS.F ht⟩) hS.2.2 dX6_multiplyByAnswer_33
set_option maxHeartbeats 4000000 in
set_option maxRecDepth 100000 in
theorem c_X6_pickedRefusal (l : Launch) (dC : Nat → ClassId) (dI : Nat → Nat → Nat) (k : Nat → ClassId) (q : Nat → Nat) (z : ZS) (sz : Nat) (hI : XInv z) (hpk : PK (z.1 5) (z.2.2.1 6) (z.2.2.1 7) (z.1 6)) : Met l yX6_pickedRefusal (wz yX6_pickedRefusal cX6_pickedRefusal 5 (some .int)) ({ frames := 1, cells := 0, slots := 0, locals := 21 }) (va_Pc [.ref (q 0)] (zPre dC dI k (zTX k) (zX k q z) sz)) (va_Qi (fun (r : Int32) (u : Unit) => True) (fun u t => zPost dC dI (va_A (zX k q z) sz) (zX k q z) t) (va_A (zX k q z) sz)) 0 0 (va_A (zX k q z) sz) := by
  refine Met.ofW (cc := cX6_pickedRefusal) (maxL := 5) (ret := (some .int)) (by decide) rfl ?_
  intro p e s m args below meth c s₁ B hml hv
  obtain ⟨rfl, hsz, hP, hK, hD0⟩ := hv
  have hx := B.exec
  have hb := B.bytes
  have hr := B.returns
  have hts := atoms_spec (ws := wz yX6_pickedRefusal cX6_pickedRefusal 5 (some .int)) B.pre
  have htb : ∀ w ∈ zw, w.before _ s = true := fun w h => hts w (List.mem_cons_of_mem _ h)
  have hown : s.vm.findClass RX6 = some m.cls := findClass_of_methodNamed B.named
  have hlocks := B.notSynchronized
  clear hts
  subst hsz
  have hD := hD0.self (sz := s.heap.size)
  generalize hAe : va_A (zX k q z) s.heap.size = A at hD ⊢
  have hA : ∀ q : Nat, s.heap.size ≤ q → A q := fun q h => by rw [← hAe]; exact Or.inr h
  have hDa : ∀ z9 : ZS, va_D A (zX k q z9) := fun z9 => va_D_adr (w := zX k q z) rfl hD
  have hl := lv_entry ([.ref (q 0)]) (n := 5) (Nat.le_of_ble_eq_true rfl)
  rw [lg_entry_eq]
  generalize (lg_sl ([.ref (q 0)]) ++ List.replicate (5 - (lg_sl ([.ref (q 0)])).length) Slot.unset).toArray = ls at hl ⊢
  have hl : lv_has ls 5 [(0, .ref (q 0))] := hl
  refine z_start2 (A := A) (w := (zX k q z)) hP (fun H locs hP hS => ?_)
  clear hD0 hAe
  have hT : trX z = trX z := rfl
  have hA2 := hI.1.1
  have hA3 := hI.1.2.1
  have hA7 : ((xA z).1 1).toInt = (z.1 6).toInt := rfl
  have hps : 0 ≤ (z.1 5).toInt ∧ (z.1 5).toInt ≤ 8 := PK_8 hpk
  refine lv_iconst (v := 0) hx hb dX6_pickedRefusal_0 (by decide) ?_
  refine lv_istore_n (lv' := [(1, .int 0), (0, .ref (q 0))]) hx hb dX6_pickedRefusal_1 rfl hl (by decide) rfl (fun ls hl => ?_)
  refine lv_iconst (v := 0) hx hb dX6_pickedRefusal_2 (by decide) ?_
  refine lv_istore_n (lv' := [(2, .int 0), (1, .int 0), (0, .ref (q 0))]) hx hb dX6_pickedRefusal_3 rfl hl (by decide) rfl (fun ls hl => ?_)
  obtain ⟨rf, erf⟩ : ∃ x : Int32, 0 = x := ⟨_, rfl⟩
  obtain ⟨i, ei⟩ : ∃ x : Int32, 0 = x := ⟨_, rfl⟩
  have hv4 : (0 ≤ i.toInt ∧ i.toInt ≤ 8) := by subst erf ei; exact (by decide)
  replace hl : lv_has ls 5 [(2, .int i), (1, .int rf), (0, .ref (q 0))] := by subst erf ei; exact hl
  clear erf ei
  obtain ⟨mm4, hm4⟩ : ∃ mm : Nat, mm = (8 - i.toInt).toNat := ⟨_, rfl⟩
  refine z_cut2 hP hS hl ?_
  clear hl hP
  intro H locs ls hP hS hl
  induction mm4 using Nat.strongRecOn generalizing rf i H locs ls with
  | _ mm4 ih4 =>
    have hi := hv4
    refine lv_iload_n hx hb dX6_pickedRefusal_4 rfl (lv_at hl 0 rfl) ?_
    refine lv_aload_n hx hb dX6_pickedRefusal_5 rfl (lv_at hl 2 rfl) ?_
    refine va_get (D := (dC, dI)) (ci := 6) (v := .ref (q 4)) (C := RX6) (T := TX6) (N := 12) hx hb htb inw6 hown hK.1 hP 0 rfl rfl 3 (by decide) (htb _ wmt1_173) (fun _ h9 => h9) rfl dX6_pickedRefusal_6 ?_
    refine va_get (D := (dC, dI)) (ci := 0) (v := .int (z.1 5)) (C := RX0) (T := TX0) (N := 9) hx hb htb inw0 hown hK.1 hP 4 rfl rfl 7 (by decide) (htb _ wmt1_45) (fun _ h9 => h9) rfl dX6_pickedRefusal_9 ?_
    refine lv_topi (fun x_1 ex_1 => ?_)
    have hx_1 : x_1.toInt = (z.1 5).toInt := by rw [ex_1]
    refine lv_icmp_ge (tgt := 79) hx hb dX6_pickedRefusal_12 (by decide) (fun c_2 => ?_) (fun c_2 => ?_)
    · skip
      have hc_2 := zb_le rfl rfl c_2
      refine lv_iload_n hx hb dX6_pickedRefusal_79 rfl (lv_at hl 1 rfl) ?_
      exact W.iret (v := rf) hx hb hr (fun t ht hW => ⟨⟨rf, (), rfl, trivial, ⟨by rw [ht]; exact hP, hDa _⟩⟩, hS.F ht⟩) hS.2.2 dX6_pickedRefusal_80
    · skip
      have hc_2 := zb_nle rfl rfl c_2
      refine lv_aload_n hx hb dX6_pickedRefusal_15 rfl (lv_at hl 2 rfl) ?_
      refine va_get (D := (dC, dI)) (ci := 6) (v := .ref (q 4)) (C := RX6) (T := TX6) (N := 12) hx hb htb inw6 hown hK.1 hP 0 rfl rfl 3 (by decide) (htb _ wmt1_173) (fun _ h9 => h9) rfl dX6_pickedRefusal_16 ?_
      refine va_get (D := (dC, dI)) (ci := 0) (v := .ref (q 11)) (C := RX0) (T := TX0) (N := 9) hx hb htb inw0 hown hK.1 hP 4 rfl rfl 6 (by decide) (htb _ wmt1_43) (fun _ h9 => h9) rfl dX6_pickedRefusal_19 ?_
      refine lv_iload_n hx hb dX6_pickedRefusal_22 rfl (lv_at hl 0 rfl) ?_
      refine va_iald (D := (dC, dI)) hx hb hK.1 hP 11 0 rfl rfl (z_in (by omega)) dX6_pickedRefusal_23 ?_
      refine lv_topi (fun x_3 ex_3 => ?_)
      have han : 0 ≤ x_3.toInt ∧ x_3.toInt < (z.1 6).toInt := by have q := hpk.2.2.2.2.2 i.toNatClampNeg (show (i.toNatClampNeg : Int) < (z.1 5).toInt by rw [z_clamp hi.1]; omega); rw [ex_3]; exact q
      refine lv_istore_n (lv' := [(3, .int x_3), (2, .int i), (1, .int rf), (0, .ref (q 0))]) hx hb dX6_pickedRefusal_24 rfl hl (by decide) rfl (fun ls hl => ?_)
      refine lv_aload_n hx hb dX6_pickedRefusal_25 rfl (lv_at hl 3 rfl) ?_
      refine va_get (D := (dC, dI)) (ci := 6) (v := .ref (q 1)) (C := RX6) (T := TX6) (N := 12) hx hb htb inw6 hown hK.1 hP 0 rfl rfl 0 (by decide) (htb _ wmt1_170) (fun _ h9 => h9) rfl dX6_pickedRefusal_26 ?_
      refine lv_aload_n hx hb dX6_pickedRefusal_29 rfl (lv_at hl 3 rfl) ?_
      refine va_get (D := (dC, dI)) (ci := 6) (v := .ref (q 4)) (C := RX6) (T := TX6) (N := 12) hx hb htb inw6 hown hK.1 hP 0 rfl rfl 3 (by decide) (htb _ wmt1_173) (fun _ h9 => h9) rfl dX6_pickedRefusal_30 ?_
      refine va_get (D := (dC, dI)) (ci := 0) (v := .ref (q 6)) (C := RX0) (T := TX0) (N := 9) hx hb htb inw0 hown hK.1 hP 4 rfl rfl 1 (by decide) (htb _ wmt1_33) (fun _ h9 => h9) rfl dX6_pickedRefusal_33 ?_
      refine lv_iload_n hx hb dX6_pickedRefusal_36 rfl (lv_at hl 0 rfl) ?_
      refine va_iald (D := (dC, dI)) hx hb hK.1 hP 6 0 rfl rfl (z_in (by omega)) dX6_pickedRefusal_37 ?_
      refine lv_topi (fun x_4 ex_4 => ?_)
      have hdg : 0 ≤ x_4.toInt ∧ x_4.toInt < 4 := by have q := hI.1.2.2 x_3.toNatClampNeg (by rw [z_clamp han.1]; omega); rw [ex_4]; omega
      refine va_aldq (D := (dC, dI)) hx hb hK.1 hP 1 3 rfl rfl (z_in (by omega)) dX6_pickedRefusal_38 ?_
      obtain ⟨d_5, ed_5⟩ : ∃ x : Nat, x = x_4.toNatClampNeg := ⟨_, rfl⟩
      have hd_5 : d_5 < 4 := by rw [ed_5]; exact z_cl4 (by omega)
      refine z_top (v2 := .ref (qD q d_5 0)) (zgD_at2 ed_5 hd_5) ?_
      refine lv_astore (lv' := [(4, .ref (qD q d_5 0)), (3, .int x_3), (2, .int i), (1, .int rf), (0, .ref (q 0))]) hx hb dX6_pickedRefusal_39 hl (by decide) rfl (fun ls hl => ?_)
      refine lv_aload hx hb dX6_pickedRefusal_41 (lv_at hl 0 rfl) ?_
      refine zcS_i (w := (zX k q z)) (wc := (zD k (qD q d_5) (xD z d_5))) (va_runV (As := []) (rest := []) ⟨hx, hb, hml, hown, htb⟩ (c_X1_isFaulty l dC dI k (qD q d_5) (xD z d_5) _ ) (cwV 0 htb (gzV wmt2_55 wmt2_20 wmt2_21 wmt1_6 wmt2_22) rfl rfl rfl (by decide +kernel) ⟨Nat.le_of_ble_eq_true rfl, Nat.le_of_ble_eq_true rfl⟩) (zp_V (ci := 1) (q0 := (16 + 3 * d_5)) hK hP (hDa _) [16 + 3 * d_5, 17 + 3 * d_5, 18 + 3 * d_5] (zX_DC hd_5) (zX_ndD hd_5) rfl (zX_D0 hd_5)) rfl rfl hl.1 rfl (lv_room (Nat.le_of_ble_eq_true rfl)) dX6_pickedRefusal_43 ⟨Nat.le_of_ble_eq_true rfl, Nat.le_of_ble_eq_true rfl⟩) hP (hDa _) hS hA [16 + 3 * d_5, 17 + 3 * d_5, 18 + 3 * d_5] (zX_DC hd_5) (fun _ => rfl) (fun r_6 u_7 H locs w_8 hP _ hS => ?_)
      have hP : va_P (dC, dI) vwCl (zX k q z) H := (zX_Dkeep hd_5) ▸ hP
      rcases w_8 with ⟨e_10, h_9⟩ | ⟨e_12, h_11⟩
      · skip
        replace e_10 : r_6 = 1 := e_10
        subst e_10
        replace h_9 : ¬ ((xD z d_5).1 2).toInt = -1 := h_9
        refine lv_if_eq (tgt := 52) hx hb dX6_pickedRefusal_46 (by decide) (fun c_13 => ?_) (fun c_13 => ?_)
        · skip
          exact absurd c_13 (by decide)
        · skip
          refine lv_bipush (v := (-3)) hx hb dX6_pickedRefusal_49 (by decide) ?_
          exact W.iret (v := (-3)) hx hb hr (fun t ht hW => ⟨⟨(-3), (), rfl, trivial, ⟨by rw [ht]; exact hP, hDa _⟩⟩, hS.F ht⟩) hS.2.2 dX6_pickedRefusal_51
      · skip
        replace e_12 : r_6 = 0 := e_12
        subst e_12
        replace h_11 : ((xD z d_5).1 2).toInt = -1 := h_11
        refine lv_if_eq (tgt := 52) hx hb dX6_pickedRefusal_46 (by decide) (fun c_14 => ?_) (fun c_14 => ?_)
        · skip
          refine lv_aload hx hb dX6_pickedRefusal_52 (lv_at hl 0 rfl) ?_
          refine lv_aload_n hx hb dX6_pickedRefusal_54 rfl (lv_at hl 4 rfl) ?_
          refine va_get (D := (dC, dI)) (ci := 6) (v := .ref (q 4)) (C := RX6) (T := TX6) (N := 12) hx hb htb inw6 hown hK.1 hP 0 rfl rfl 3 (by decide) (htb _ wmt1_173) (fun _ h9 => h9) rfl dX6_pickedRefusal_55 ?_
          refine va_get (D := (dC, dI)) (ci := 0) (v := .ref (q 7)) (C := RX0) (T := TX0) (N := 9) hx hb htb inw0 hown hK.1 hP 4 rfl rfl 2 (by decide) (htb _ wmt1_35) (fun _ h9 => h9) rfl dX6_pickedRefusal_58 ?_
          refine lv_iload_n hx hb dX6_pickedRefusal_61 rfl (lv_at hl 1 rfl) ?_
          refine va_iald (D := (dC, dI)) hx hb hK.1 hP 7 0 rfl rfl (z_in (by omega)) dX6_pickedRefusal_62 ?_
          refine lv_topi (fun x_15 ex_15 => ?_)
          refine zcS_l (w := (zX k q z)) (wc := (zD k (qD q d_5) (xD z d_5))) (va_runV (As := [.int x_15]) (rest := []) ⟨hx, hb, hml, hown, htb⟩ (c_X1_lotsIfHasNot l dC dI k (qD q d_5) (xD z d_5) x_15 _ ) (cwV 1 htb (gzV wmt2_231 wmt2_192 wmt2_193 wmt1_6 wmt2_194) rfl rfl rfl (by decide +kernel) ⟨Nat.le_of_ble_eq_true rfl, Nat.le_of_ble_eq_true rfl⟩) (zp_V (ci := 1) (q0 := (16 + 3 * d_5)) hK hP (hDa _) [16 + 3 * d_5, 17 + 3 * d_5, 18 + 3 * d_5] (zX_DC hd_5) (zX_ndD hd_5) rfl (zX_D0 hd_5)) rfl rfl hl.1 rfl (lv_room (Nat.le_of_ble_eq_true rfl)) dX6_pickedRefusal_63 ⟨Nat.le_of_ble_eq_true rfl, Nat.le_of_ble_eq_true rfl⟩) hP (hDa _) hS hA [16 + 3 * d_5, 17 + 3 * d_5, 18 + 3 * d_5] (zX_DC hd_5) (fun _ => rfl) (fun r_16 u_17 H locs w_18 hP _ hS => ?_)
          have hP : va_P (dC, dI) vwCl (zX k q z) H := (zX_Dkeep hd_5) ▸ hP
          refine lv_lconst (v := 0) hx hb dX6_pickedRefusal_66 (by decide) ?_
          refine z_lcmp hx hb dX6_pickedRefusal_67 ?_
          refine lv_if_ne (tgt := 73) hx hb dX6_pickedRefusal_68 (by decide) (fun c_19 => ?_) (fun c_19 => ?_)
          · skip
            have hc_19 := zl_ne rfl (show (0 : Int64).toInt = 0 by decide) c_19
            obtain ⟨x_20, ex_20⟩ : ∃ y : Int32, y = i + 1 := ⟨_, rfl⟩
            have hx_20 : x_20.toInt = i.toInt + 1 := z_add ex_20 rfl (show (1 : Int32).toInt = 1 by decide) (by omega)
            refine lv_iinc (v := x_20) (lv' := [(2, .int x_20), (4, .ref (qD q d_5 0)), (3, .int x_3), (1, .int rf), (0, .ref (q 0))]) hx hb dX6_pickedRefusal_73 hl (k := 2) rfl (by rw [ex_20]; rfl) (by decide) rfl (fun ls hl => ?_)
            refine lv_goto (tgt := 4) hx hb dX6_pickedRefusal_76 (by decide) ?_
            exact ih4 ((8 - x_20.toInt).toNat) (by omega) rf x_20 (show 0 ≤ x_20.toInt ∧ x_20.toInt ≤ 8 by omega) rfl H locs ls hP hS (lv_sub hl [0, 3, 4] rfl)
          · skip
            have hc_19 := zl_eq rfl (show (0 : Int64).toInt = 0 by decide) c_19
            refine lv_iconst (v := (-1)) hx hb dX6_pickedRefusal_71 (by decide) ?_
            refine lv_istore_n (lv' := [(1, .int (-1)), (4, .ref (qD q d_5 0)), (3, .int x_3), (2, .int i), (0, .ref (q 0))]) hx hb dX6_pickedRefusal_72 rfl hl (by decide) rfl (fun ls hl => ?_)
            obtain ⟨x_21, ex_21⟩ : ∃ y : Int32, y = i + 1 := ⟨_, rfl⟩
            have hx_21 : x_21.toInt = i.toInt + 1 := z_add ex_21 rfl (show (1 : Int32).toInt = 1 by decide) (by omega)
            refine lv_iinc (v := x_21) (lv' := [(2, .int x_21), (1, .int (-1)), (4, .ref (qD q d_5 0)), (3, .int x_3), (0, .ref (q 0))]) hx hb dX6_pickedRefusal_73 hl (k := 3) rfl (by rw [ex_21]; rfl) (by decide) rfl (fun ls hl => ?_)
            refine lv_goto (tgt := 4) hx hb dX6_pickedRefusal_76 (by decide) ?_
            exact ih4 ((8 - x_21.toInt).toNat) (by omega) (-1) x_21 (show 0 ≤ x_21.toInt ∧ x_21.toInt ≤ 8 by omega) rfl H locs ls hP hS (lv_sub hl [0, 1, 4] rfl)
        · skip
          exact absurd (by decide) c_14
set_option maxHeartbeats 4000000 in
set_option maxRecDepth 100000 in
theorem c_X6_multiplyGivenAway (l : Launch) (dC : Nat → ClassId) (dI : Nat → Nat → Nat) (k : Nat → ClassId) (q : Nat → Nat) (z : ZS) (pe : Int32) (sz : Nat) (hI : XInv z) : Met l yX6_multiplyGivenAway (wz yX6_multiplyGivenAway cX6_multiplyGivenAway 5 (some .int)) ({ frames := 4, cells := 0, slots := 0, locals := 91 }) (va_Pc [.ref (q 0), .int pe] (zPre dC dI k (zTX k) (zX k q z) sz)) (va_Qi (fun (r : Int32) (u : ZS) => (XInv u) ∧ (trX u = trX z) ∧ (PK (u.1 5) (u.2.2.1 6) (u.2.2.1 7) (u.1 6))) (fun u t => zPost dC dI (va_A (zX k q z) sz) (zX k q u) t) (va_A (zX k q z) sz)) 0 0 (va_A (zX k q z) sz) := by
  refine Met.ofW (cc := cX6_multiplyGivenAway) (maxL := 5) (ret := (some .int)) (by decide) rfl ?_
  intro p e s m args below meth c s₁ B hml hv
  obtain ⟨rfl, hsz, hP, hK, hD0⟩ := hv
  have hx := B.exec
  have hb := B.bytes
  have hr := B.returns
  have hts := atoms_spec (ws := wz yX6_multiplyGivenAway cX6_multiplyGivenAway 5 (some .int)) B.pre
  have htb : ∀ w ∈ zw, w.before _ s = true := fun w h => hts w (List.mem_cons_of_mem _ h)
  have hown : s.vm.findClass RX6 = some m.cls := findClass_of_methodNamed B.named
  have hlocks := B.notSynchronized
  clear hts
  subst hsz
  have hD := hD0.self (sz := s.heap.size)
  generalize hAe : va_A (zX k q z) s.heap.size = A at hD ⊢
  have hA : ∀ q : Nat, s.heap.size ≤ q → A q := fun q h => by rw [← hAe]; exact Or.inr h
  have hDa : ∀ z9 : ZS, va_D A (zX k q z9) := fun z9 => va_D_adr (w := zX k q z) rfl hD
  have hl := lv_entry ([.ref (q 0), .int pe]) (n := 5) (Nat.le_of_ble_eq_true rfl)
  rw [lg_entry_eq]
  generalize (lg_sl ([.ref (q 0), .int pe]) ++ List.replicate (5 - (lg_sl ([.ref (q 0), .int pe])).length) Slot.unset).toArray = ls at hl ⊢
  have hl : lv_has ls 5 [(0, .ref (q 0)), (1, .int pe)] := hl
  refine z_start2 (A := A) (w := (zX k q z)) hP (fun H locs hP hS => ?_)
  clear hD0 hAe
  have hT : trX z = trX z := rfl
  have hA2 := hI.1.1
  have hA3 := hI.1.2.1
  have hA7 : ((xA z).1 1).toInt = (z.1 6).toInt := rfl
  refine lv_aload_n hx hb dX6_multiplyGivenAway_0 rfl (lv_at hl 0 rfl) ?_
  refine va_get (D := (dC, dI)) (ci := 6) (v := .ref (q 4)) (C := RX6) (T := TX6) (N := 12) hx hb htb inw6 hown hK.1 hP 0 rfl rfl 3 (by decide) (htb _ wmt1_173) (fun _ h9 => h9) rfl dX6_multiplyGivenAway_1 ?_
  refine lv_iload_n hx hb dX6_multiplyGivenAway_4 rfl (lv_at hl 1 rfl) ?_
  refine lv_aload_n hx hb dX6_multiplyGivenAway_5 rfl (lv_at hl 0 rfl) ?_
  refine zcA_i (w := (zX k q z)) (va_runV (As := []) (rest := [.int pe, .ref (q 4)]) ⟨hx, hb, hml, hown, htb⟩ (c_X6_dayOfView l dC dI k q z _ hI) (cwV 0 htb (gzV wmt2_118 wmt2_120 wmp1_8 wmt1_1 wmt2_121) rfl rfl rfl (by decide +kernel) ⟨Nat.le_of_ble_eq_true rfl, Nat.le_of_ble_eq_true rfl⟩) (zpA_V (ci := 6) (q0 := 0) hK hP (hDa _) rfl rfl) rfl rfl hl.1 rfl (lv_room (Nat.le_of_ble_eq_true rfl)) dX6_multiplyGivenAway_6 ⟨Nat.le_of_ble_eq_true rfl, Nat.le_of_ble_eq_true rfl⟩) (hDa _) hS hA (fun r_1 u_2 H locs w_3 hP _ hS => ?_)
  refine zcS_v (w := (zX k q z)) (wc := (zA k (qof q 4) (xA z))) (va_runV (As := [.int pe, .int r_1]) (rest := []) ⟨hx, hb, hml, hown, htb⟩ (c_X0_pick l dC dI k (qof q 4) (xA z) pe r_1 _ hI.1) (cwV 2 htb (gzV wmt3_1 wmt3_2 wmt3_3 wmt1_2 wmt3_4) rfl rfl rfl (by decide +kernel) ⟨Nat.le_of_ble_eq_true rfl, Nat.le_of_ble_eq_true rfl⟩) (zp_V (ci := 0) (q0 := 4) hK hP (hDa _) [4, 5, 6, 7, 8, 9, 10, 11] rfl (by decide) rfl rfl) rfl rfl hl.1 rfl (lv_room (Nat.le_of_ble_eq_true rfl)) dX6_multiplyGivenAway_9 ⟨Nat.le_of_ble_eq_true rfl, Nat.le_of_ble_eq_true rfl⟩) hP (hDa _) hS hA [4, 5, 6, 7, 8, 9, 10, 11] rfl (fun _ => rfl) (fun u_5 H locs w_6 hP _ hS => ?_)
  have hP : va_P (dC, dI) vwCl (zX k q (sA (sA (sA (sA (sA (sA (sA (sI (sI z 5 (u_5.1 0)) 6 (u_5.1 1)) 1 (u_5.2.2.1 0)) 2 (u_5.2.2.1 1)) 3 (u_5.2.2.1 2)) 4 (u_5.2.2.1 3)) 5 (u_5.2.2.1 4)) 6 (u_5.2.2.1 5)) 7 (u_5.2.2.1 6))) H := hP
  obtain ⟨h_7, h_8, h_9, h_10⟩ := w_6
  replace h_7 : P6 (u_5.1 1) (u_5.2.2.1 0) (u_5.2.2.1 1) := h_7
  replace h_8 : PK (u_5.1 0) (u_5.2.2.1 5) (u_5.2.2.1 6) (u_5.1 1) := h_8
  replace h_9 : u_5.1 1 = (xA z).1 1 := h_9
  replace h_10 : u_5.2.2.1 4 = (xA z).2.2.1 4 := h_10
  have hI : XInv (sA (sA (sA (sA (sA (sA (sA (sI (sI z 5 (u_5.1 0)) 6 (u_5.1 1)) 1 (u_5.2.2.1 0)) 2 (u_5.2.2.1 1)) 3 (u_5.2.2.1 2)) 4 (u_5.2.2.1 3)) 5 (u_5.2.2.1 4)) 6 (u_5.2.2.1 5)) 7 (u_5.2.2.1 6)) := ⟨h_7, hI.2⟩
  have hTA : trX (sA (sA (sA (sA (sA (sA (sA (sI (sI z 5 (u_5.1 0)) 6 (u_5.1 1)) 1 (u_5.2.2.1 0)) 2 (u_5.2.2.1 1)) 3 (u_5.2.2.1 2)) 4 (u_5.2.2.1 3)) 5 (u_5.2.2.1 4)) 6 (u_5.2.2.1 5)) 7 (u_5.2.2.1 6)) = ((trX z).1.set 32 ((xA z).1 1), (trX z).2.1, (trX z).2.2.set 4 ((xA z).2.2.1 4)) := (show trX (sA (sA (sA (sA (sA (sA (sA (sI (sI z 5 (u_5.1 0)) 6 (u_5.1 1)) 1 (u_5.2.2.1 0)) 2 (u_5.2.2.1 1)) 3 (u_5.2.2.1 2)) 4 (u_5.2.2.1 3)) 5 (u_5.2.2.1 4)) 6 (u_5.2.2.1 5)) 7 (u_5.2.2.1 6)) = ((trX z).1.set 32 (u_5.1 1), (trX z).2.1, (trX z).2.2.set 4 (u_5.2.2.1 4)) from rfl).trans (by rw [h_9, h_10])
  have hT : trX (sA (sA (sA (sA (sA (sA (sA (sI (sI z 5 (u_5.1 0)) 6 (u_5.1 1)) 1 (u_5.2.2.1 0)) 2 (u_5.2.2.1 1)) 3 (u_5.2.2.1 2)) 4 (u_5.2.2.1 3)) 5 (u_5.2.2.1 4)) 6 (u_5.2.2.1 5)) 7 (u_5.2.2.1 6)) = trX z := (hTA.trans trX_AK).trans hT
  have hpk := h_8
  refine lv_aload_n hx hb dX6_multiplyGivenAway_12 rfl (lv_at hl 0 rfl) ?_
  refine zcA_i (w := (zX k q (sA (sA (sA (sA (sA (sA (sA (sI (sI z 5 (u_5.1 0)) 6 (u_5.1 1)) 1 (u_5.2.2.1 0)) 2 (u_5.2.2.1 1)) 3 (u_5.2.2.1 2)) 4 (u_5.2.2.1 3)) 5 (u_5.2.2.1 4)) 6 (u_5.2.2.1 5)) 7 (u_5.2.2.1 6)))) (va_runV (As := []) (rest := []) ⟨hx, hb, hml, hown, htb⟩ (c_X6_pickedRefusal l dC dI k q (sA (sA (sA (sA (sA (sA (sA (sI (sI z 5 (u_5.1 0)) 6 (u_5.1 1)) 1 (u_5.2.2.1 0)) 2 (u_5.2.2.1 1)) 3 (u_5.2.2.1 2)) 4 (u_5.2.2.1 3)) 5 (u_5.2.2.1 4)) 6 (u_5.2.2.1 5)) 7 (u_5.2.2.1 6)) _ hI hpk) (cwV 0 htb (gzV wmt3_9 wmt3_11 wmp2_0 wmt1_1 wmt3_12) rfl rfl rfl (by decide +kernel) ⟨Nat.le_of_ble_eq_true rfl, Nat.le_of_ble_eq_true rfl⟩) (zpA_V (ci := 6) (q0 := 0) hK hP (hDa _) rfl rfl) rfl rfl hl.1 rfl (lv_room (Nat.le_of_ble_eq_true rfl)) dX6_multiplyGivenAway_13 ⟨Nat.le_of_ble_eq_true rfl, Nat.le_of_ble_eq_true rfl⟩) (hDa _) hS hA (fun r_12 u_13 H locs w_14 hP _ hS => ?_)
  refine lv_istore_n (lv' := [(2, .int r_12), (0, .ref (q 0)), (1, .int pe)]) hx hb dX6_multiplyGivenAway_16 rfl hl (by decide) rfl (fun ls hl => ?_)
  refine lv_aload_n hx hb dX6_multiplyGivenAway_17 rfl (lv_at hl 1 rfl) ?_
  refine va_get (D := (dC, dI)) (ci := 6) (v := .ref (q 15)) (C := RX6) (T := TX6) (N := 12) hx hb htb inw6 hown hK.1 hP 0 rfl rfl 6 (by decide) (htb _ wmt1_176) (fun _ h9 => h9) rfl dX6_multiplyGivenAway_18 ?_
  refine lv_lconst (v := 1) hx hb dX6_multiplyGivenAway_21 (by decide) ?_
  refine lv_lconst (v := 1) hx hb dX6_multiplyGivenAway_22 (by decide) ?_
  refine zcS_v (w := (zX k q (sA (sA (sA (sA (sA (sA (sA (sI (sI z 5 (u_5.1 0)) 6 (u_5.1 1)) 1 (u_5.2.2.1 0)) 2 (u_5.2.2.1 1)) 3 (u_5.2.2.1 2)) 4 (u_5.2.2.1 3)) 5 (u_5.2.2.1 4)) 6 (u_5.2.2.1 5)) 7 (u_5.2.2.1 6)))) (wc := (zF k (qof q 15) (xF (sA (sA (sA (sA (sA (sA (sA (sI (sI z 5 (u_5.1 0)) 6 (u_5.1 1)) 1 (u_5.2.2.1 0)) 2 (u_5.2.2.1 1)) 3 (u_5.2.2.1 2)) 4 (u_5.2.2.1 3)) 5 (u_5.2.2.1 4)) 6 (u_5.2.2.1 5)) 7 (u_5.2.2.1 6))))) (va_runV (As := [.long 1, .long 1]) (rest := []) ⟨hx, hb, hml, hown, htb⟩ (c_X2_become l dC dI k (qof q 15) (xF (sA (sA (sA (sA (sA (sA (sA (sI (sI z 5 (u_5.1 0)) 6 (u_5.1 1)) 1 (u_5.2.2.1 0)) 2 (u_5.2.2.1 1)) 3 (u_5.2.2.1 2)) 4 (u_5.2.2.1 3)) 5 (u_5.2.2.1 4)) 6 (u_5.2.2.1 5)) 7 (u_5.2.2.1 6))) 1 1 _ ) (cwV 2 htb (gzV wmt2_56 wmt2_57 wmt2_58 wmt1_5 wmt2_59) rfl rfl rfl (by decide +kernel) ⟨Nat.le_of_ble_eq_true rfl, Nat.le_of_ble_eq_true rfl⟩) (zp_V (ci := 2) (q0 := 15) hK hP (hDa _) [15] rfl (by decide) rfl rfl) rfl rfl hl.1 rfl (lv_room (Nat.le_of_ble_eq_true rfl)) dX6_multiplyGivenAway_23 ⟨Nat.le_of_ble_eq_true rfl, Nat.le_of_ble_eq_true rfl⟩) hP (hDa _) hS hA [15] rfl (fun _ => rfl) (fun u_16 H locs w_17 hP _ hS => ?_)
  have hP : va_P (dC, dI) vwCl (zX k q (sJ (sJ (sA (sA (sA (sA (sA (sA (sA (sI (sI z 5 (u_5.1 0)) 6 (u_5.1 1)) 1 (u_5.2.2.1 0)) 2 (u_5.2.2.1 1)) 3 (u_5.2.2.1 2)) 4 (u_5.2.2.1 3)) 5 (u_5.2.2.1 4)) 6 (u_5.2.2.1 5)) 7 (u_5.2.2.1 6)) 0 (u_16.2.1 0)) 1 (u_16.2.1 1))) H := hP
  refine lv_iconst (v := 0) hx hb dX6_multiplyGivenAway_26 (by decide) ?_
  refine lv_istore_n (lv' := [(3, .int 0), (2, .int r_12), (0, .ref (q 0)), (1, .int pe)]) hx hb dX6_multiplyGivenAway_27 rfl hl (by decide) rfl (fun ls hl => ?_)
  obtain ⟨rf, erf⟩ : ∃ x : Int32, r_12 = x := ⟨_, rfl⟩
  obtain ⟨i, ei⟩ : ∃ x : Int32, 0 = x := ⟨_, rfl⟩
  obtain ⟨z1, ez1⟩ : ∃ x : ZS, (sJ (sJ (sA (sA (sA (sA (sA (sA (sA (sI (sI z 5 (u_5.1 0)) 6 (u_5.1 1)) 1 (u_5.2.2.1 0)) 2 (u_5.2.2.1 1)) 3 (u_5.2.2.1 2)) 4 (u_5.2.2.1 3)) 5 (u_5.2.2.1 4)) 6 (u_5.2.2.1 5)) 7 (u_5.2.2.1 6)) 0 (u_16.2.1 0)) 1 (u_16.2.1 1)) = x := ⟨_, rfl⟩
  have hv28 : (0 ≤ i.toInt ∧ i.toInt ≤ 8) ∧ (XInv z1) ∧ (trX z1 = trX z) ∧ (PK (z1.1 5) (z1.2.2.1 6) (z1.2.2.1 7) (z1.1 6)) := by subst erf ei ez1; exact ⟨(by decide), hI, hT, hpk⟩
  replace hl : lv_has ls 5 [(3, .int i), (2, .int rf), (0, .ref (q 0)), (1, .int pe)] := by subst erf ei ez1; exact hl
  replace hP : va_P (dC, dI) vwCl (zX k q z1) H := by subst ez1; exact hP
  clear erf ei ez1
  obtain ⟨mm28, hm28⟩ : ∃ mm : Nat, mm = (8 - i.toInt).toNat := ⟨_, rfl⟩
  refine z_cut2 hP hS hl ?_
  clear hl hP
  intro H locs ls hP hS hl
  induction mm28 using Nat.strongRecOn generalizing rf i z1 H locs ls with
  | _ mm28 ih28 =>
    obtain ⟨hi, hI1, hT1, hpk1⟩ := hv28
    have hI := hI1
    have hT := hT1
    have hps : 0 ≤ (z1.1 5).toInt ∧ (z1.1 5).toInt ≤ 8 := PK_8 hpk1
    have hA6 := hI1.1.2.1
    refine lv_iload_n hx hb dX6_multiplyGivenAway_28 rfl (lv_at hl 0 rfl) ?_
    refine lv_aload_n hx hb dX6_multiplyGivenAway_29 rfl (lv_at hl 2 rfl) ?_
    refine va_get (D := (dC, dI)) (ci := 6) (v := .ref (q 4)) (C := RX6) (T := TX6) (N := 12) hx hb htb inw6 hown hK.1 hP 0 rfl rfl 3 (by decide) (htb _ wmt1_173) (fun _ h9 => h9) rfl dX6_multiplyGivenAway_30 ?_
    refine va_get (D := (dC, dI)) (ci := 0) (v := .int (z1.1 5)) (C := RX0) (T := TX0) (N := 9) hx hb htb inw0 hown hK.1 hP 4 rfl rfl 7 (by decide) (htb _ wmt1_45) (fun _ h9 => h9) rfl dX6_multiplyGivenAway_33 ?_
    refine lv_topi (fun x_18 ex_18 => ?_)
    have hx_18 : x_18.toInt = (z1.1 5).toInt := by rw [ex_18]
    refine lv_icmp_ge (tgt := 105) hx hb dX6_multiplyGivenAway_36 (by decide) (fun c_19 => ?_) (fun c_19 => ?_)
    · skip
      have hc_19 := zb_le rfl rfl c_19
      refine lv_iload_n hx hb dX6_multiplyGivenAway_105 rfl (lv_at hl 1 rfl) ?_
      exact W.iret (v := rf) hx hb hr (fun t ht hW => ⟨⟨rf, z1, rfl, ⟨hI, hT, hpk1⟩, ⟨by rw [ht]; exact hP, hDa _⟩⟩, hS.F ht⟩) hS.2.2 dX6_multiplyGivenAway_106
    · skip
      have hc_19 := zb_nle rfl rfl c_19
      refine lv_iload_n hx hb dX6_multiplyGivenAway_39 rfl (lv_at hl 1 rfl) ?_
      refine lv_if_ne (tgt := 105) hx hb dX6_multiplyGivenAway_40 (by decide) (fun c_20 => ?_) (fun c_20 => ?_)
      · skip
        have hc_20 := zb_ne rfl (show (0 : Int32).toInt = 0 by decide) c_20
        refine lv_iload_n hx hb dX6_multiplyGivenAway_105 rfl (lv_at hl 1 rfl) ?_
        exact W.iret (v := rf) hx hb hr (fun t ht hW => ⟨⟨rf, z1, rfl, ⟨hI, hT, hpk1⟩, ⟨by rw [ht]; exact hP, hDa _⟩⟩, hS.F ht⟩) hS.2.2 dX6_multiplyGivenAway_106
      · skip
        have hc_20 := zb_eq rfl (show (0 : Int32).toInt = 0 by decide) c_20
        refine lv_aload_n hx hb dX6_multiplyGivenAway_43 rfl (lv_at hl 2 rfl) ?_
        refine va_get (D := (dC, dI)) (ci := 6) (v := .ref (q 4)) (C := RX6) (T := TX6) (N := 12) hx hb htb inw6 hown hK.1 hP 0 rfl rfl 3 (by decide) (htb _ wmt1_173) (fun _ h9 => h9) rfl dX6_multiplyGivenAway_44 ?_
        refine va_get (D := (dC, dI)) (ci := 0) (v := .ref (q 11)) (C := RX0) (T := TX0) (N := 9) hx hb htb inw0 hown hK.1 hP 4 rfl rfl 6 (by decide) (htb _ wmt1_43) (fun _ h9 => h9) rfl dX6_multiplyGivenAway_47 ?_
        refine lv_iload_n hx hb dX6_multiplyGivenAway_50 rfl (lv_at hl 0 rfl) ?_
        refine va_iald (D := (dC, dI)) hx hb hK.1 hP 11 0 rfl rfl (z_in (by omega)) dX6_multiplyGivenAway_51 ?_
        refine lv_topi (fun x_21 ex_21 => ?_)
        have han : 0 ≤ x_21.toInt ∧ x_21.toInt < (z1.1 6).toInt := by have q := hpk1.2.2.2.2.2 i.toNatClampNeg (show (i.toNatClampNeg : Int) < (z1.1 5).toInt by rw [z_clamp hi.1]; omega); rw [ex_21]; exact q
        refine lv_istore (lv' := [(4, .int x_21), (3, .int i), (2, .int rf), (0, .ref (q 0)), (1, .int pe)]) hx hb dX6_multiplyGivenAway_52 hl (by decide) rfl (fun ls hl => ?_)
        refine lv_aload_n hx hb dX6_multiplyGivenAway_54 rfl (lv_at hl 3 rfl) ?_
        refine lv_aload_n hx hb dX6_multiplyGivenAway_55 rfl (lv_at hl 3 rfl) ?_
        refine va_get (D := (dC, dI)) (ci := 6) (v := .ref (q 1)) (C := RX6) (T := TX6) (N := 12) hx hb htb inw6 hown hK.1 hP 0 rfl rfl 0 (by decide) (htb _ wmt1_170) (fun _ h9 => h9) rfl dX6_multiplyGivenAway_56 ?_
        refine lv_aload_n hx hb dX6_multiplyGivenAway_59 rfl (lv_at hl 3 rfl) ?_
        refine va_get (D := (dC, dI)) (ci := 6) (v := .ref (q 4)) (C := RX6) (T := TX6) (N := 12) hx hb htb inw6 hown hK.1 hP 0 rfl rfl 3 (by decide) (htb _ wmt1_173) (fun _ h9 => h9) rfl dX6_multiplyGivenAway_60 ?_
        refine va_get (D := (dC, dI)) (ci := 0) (v := .ref (q 6)) (C := RX0) (T := TX0) (N := 9) hx hb htb inw0 hown hK.1 hP 4 rfl rfl 1 (by decide) (htb _ wmt1_33) (fun _ h9 => h9) rfl dX6_multiplyGivenAway_63 ?_
        refine lv_iload hx hb dX6_multiplyGivenAway_66 (lv_at hl 0 rfl) ?_
        refine va_iald (D := (dC, dI)) hx hb hK.1 hP 6 0 rfl rfl (z_in (by omega)) dX6_multiplyGivenAway_68 ?_
        refine lv_topi (fun x_22 ex_22 => ?_)
        have hdg : 0 ≤ x_22.toInt ∧ x_22.toInt < 4 := by have q := hI.1.2.2 x_21.toNatClampNeg (by rw [z_clamp han.1]; omega); rw [ex_22]; omega
        refine va_aldq (D := (dC, dI)) hx hb hK.1 hP 1 3 rfl rfl (z_in (by omega)) dX6_multiplyGivenAway_69 ?_
        obtain ⟨d_23, ed_23⟩ : ∃ x : Nat, x = x_22.toNatClampNeg := ⟨_, rfl⟩
        have hd_23 : d_23 < 4 := by rw [ed_23]; exact z_cl4 (by omega)
        refine z_top (v2 := .ref (qD q d_23 0)) (zgD_at2 ed_23 hd_23) ?_
        refine lv_aload_n hx hb dX6_multiplyGivenAway_70 rfl (lv_at hl 3 rfl) ?_
        refine va_get (D := (dC, dI)) (ci := 6) (v := .ref (q 4)) (C := RX6) (T := TX6) (N := 12) hx hb htb inw6 hown hK.1 hP 0 rfl rfl 3 (by decide) (htb _ wmt1_173) (fun _ h9 => h9) rfl dX6_multiplyGivenAway_71 ?_
        refine va_get (D := (dC, dI)) (ci := 0) (v := .ref (q 7)) (C := RX0) (T := TX0) (N := 9) hx hb htb inw0 hown hK.1 hP 4 rfl rfl 2 (by decide) (htb _ wmt1_35) (fun _ h9 => h9) rfl dX6_multiplyGivenAway_74 ?_
        refine lv_iload hx hb dX6_multiplyGivenAway_77 (lv_at hl 0 rfl) ?_
        refine va_iald (D := (dC, dI)) hx hb hK.1 hP 7 0 rfl rfl (z_in (by omega)) dX6_multiplyGivenAway_79 ?_
        refine lv_topi (fun x_24 ex_24 => ?_)
        refine zcA_v (w := (zX k q z1)) (va_runV (As := [.ref (qD q d_23 0), .int x_24]) (rest := []) ⟨hx, hb, hml, hown, htb⟩ (c_X6_multiplyByAnswer l dC dI k q z1 d_23 x_24 _ hI hd_23) (cwV 2 htb (gzV wmt3_13 wmt3_15 wmp2_1 wmt1_1 wmt3_16) rfl rfl rfl (by decide +kernel) ⟨Nat.le_of_ble_eq_true rfl, Nat.le_of_ble_eq_true rfl⟩) (zpA_V (ci := 6) (q0 := 0) hK hP (hDa _) rfl rfl) rfl rfl hl.1 rfl (lv_room (Nat.le_of_ble_eq_true rfl)) dX6_multiplyGivenAway_80 ⟨Nat.le_of_ble_eq_true rfl, Nat.le_of_ble_eq_true rfl⟩) (hDa _) hS hA (fun u_26 H locs w_27 hP _ hS => ?_)
        obtain ⟨h_28, h_29, h_30, h_31⟩ := w_27
        replace h_28 : XInv u_26 := h_28
        replace h_29 : trX u_26 = trX z1 := h_29
        replace h_30 : u_26.1 = z1.1 := h_30
        replace h_31 : u_26.2.2 = z1.2.2 := h_31
        have hI := h_28
        have hT := h_29.trans hT
        have hpk2 : PK (u_26.1 5) (u_26.2.2.1 6) (u_26.2.2.1 7) (u_26.1 6) := by rw [h_30, h_31]; exact hpk1
        refine lv_aload_n hx hb dX6_multiplyGivenAway_83 rfl (lv_at hl 3 rfl) ?_
        refine va_get (D := (dC, dI)) (ci := 6) (v := .ref (q 15)) (C := RX6) (T := TX6) (N := 12) hx hb htb inw6 hown hK.1 hP 0 rfl rfl 6 (by decide) (htb _ wmt1_176) (fun _ h9 => h9) rfl dX6_multiplyGivenAway_84 ?_
        refine lv_ldc2 (v := 1000000000) hx hb hown (htb _ wmt3_17) dX6_multiplyGivenAway_87 ?_
        refine zcS_i (w := (zX k q u_26)) (wc := (zF k (qof q 15) (xF u_26))) (va_runV (As := [.long 1000000000]) (rest := []) ⟨hx, hb, hml, hown, htb⟩ (c_X2_isAbove l dC dI k (qof q 15) (xF u_26) 1000000000 _ ) (cwV 1 htb (gzV wmt3_18 wmt3_19 wmt3_20 wmt1_5 wmt3_21) rfl rfl rfl (by decide +kernel) ⟨Nat.le_of_ble_eq_true rfl, Nat.le_of_ble_eq_true rfl⟩) (zp_V (ci := 2) (q0 := 15) hK hP (hDa _) [15] rfl (by decide) rfl rfl) rfl rfl hl.1 rfl (lv_room (Nat.le_of_ble_eq_true rfl)) dX6_multiplyGivenAway_90 ⟨Nat.le_of_ble_eq_true rfl, Nat.le_of_ble_eq_true rfl⟩) hP (hDa _) hS hA [15] rfl (fun _ => rfl) (fun r_33 u_34 H locs w_35 hP _ hS => ?_)
        have hP : va_P (dC, dI) vwCl (zX k q u_26) H := hP
        refine lv_if_eq (tgt := 99) hx hb dX6_multiplyGivenAway_93 (by decide) (fun c_36 => ?_) (fun c_36 => ?_)
        · skip
          have hc_36 := zb_eq rfl (show (0 : Int32).toInt = 0 by decide) c_36
          obtain ⟨x_37, ex_37⟩ : ∃ y : Int32, y = i + 1 := ⟨_, rfl⟩
          have hx_37 : x_37.toInt = i.toInt + 1 := z_add ex_37 rfl (show (1 : Int32).toInt = 1 by decide) (by omega)
          refine lv_iinc (v := x_37) (lv' := [(3, .int x_37), (4, .int x_21), (2, .int rf), (0, .ref (q 0)), (1, .int pe)]) hx hb dX6_multiplyGivenAway_99 hl (k := 1) rfl (by rw [ex_37]; rfl) (by decide) rfl (fun ls hl => ?_)
          refine lv_goto (tgt := 28) hx hb dX6_multiplyGivenAway_102 (by decide) ?_
          exact ih28 ((8 - x_37.toInt).toNat) (by omega) rf x_37 u_26 ⟨(show 0 ≤ x_37.toInt ∧ x_37.toInt ≤ 8 by omega), hI, hT, hpk2⟩ rfl H locs ls hP hS (lv_sub hl [0, 2, 3, 4] rfl)
        · skip
          have hc_36 := zb_ne rfl (show (0 : Int32).toInt = 0 by decide) c_36
          refine lv_bipush (v := (-4)) hx hb dX6_multiplyGivenAway_96 (by decide) ?_
          refine lv_istore_n (lv' := [(2, .int (-4)), (4, .int x_21), (3, .int i), (0, .ref (q 0)), (1, .int pe)]) hx hb dX6_multiplyGivenAway_98 rfl hl (by decide) rfl (fun ls hl => ?_)
          obtain ⟨x_38, ex_38⟩ : ∃ y : Int32, y = i + 1 := ⟨_, rfl⟩
          have hx_38 : x_38.toInt = i.toInt + 1 := z_add ex_38 rfl (show (1 : Int32).toInt = 1 by decide) (by omega)
          refine lv_iinc (v := x_38) (lv' := [(3, .int x_38), (2, .int (-4)), (4, .int x_21), (0, .ref (q 0)), (1, .int pe)]) hx hb dX6_multiplyGivenAway_99 hl (k := 2) rfl (by rw [ex_38]; rfl) (by decide) rfl (fun ls hl => ?_)
          refine lv_goto (tgt := 28) hx hb dX6_multiplyGivenAway_102 (by decide) ?_
          exact ih28 ((8 - x_38.toInt).toNat) (by omega) (-4) x_38 u_26 ⟨(show 0 ≤ x_38.toInt ∧ x_38.toInt ≤ 8 by omega), hI, hT, hpk2⟩ rfl H locs ls hP hS (lv_sub hl [0, 1, 3, 4] rfl)
set_option maxHeartbeats 4000000 in
set_option maxRecDepth 100000 in
theorem c_X6_given (l : Launch) (dC : Nat → ClassId) (dI : Nat → Nat → Nat) (k : Nat → ClassId) (q : Nat → Nat) (z : ZS) (pe : Int32) (w : Int32) (sz : Nat) (hI : XInv z) : Met l yX6_given (wz yX6_given cX6_given 4 (some .long)) ({ frames := 5, cells := 0, slots := 0, locals := 115 }) (va_Pc [.ref (q 0), .int pe, .int w] (zPre dC dI k (zTX k) (zX k q z) sz)) (va_Ql (fun (r : Int64) (u : ZS) => (XInv u) ∧ (trX u = trX z)) (fun u t => zPost dC dI (va_A (zX k q z) sz) (zX k q u) t) (va_A (zX k q z) sz)) 0 0 (va_A (zX k q z) sz) := by
  refine Met.ofW (cc := cX6_given) (maxL := 4) (ret := (some .long)) (by decide) rfl ?_
  intro p e s m args below meth c s₁ B hml hv
  obtain ⟨rfl, hsz, hP, hK, hD0⟩ := hv
  have hx := B.exec
  have hb := B.bytes
  have hr := B.returns
  have hts := atoms_spec (ws := wz yX6_given cX6_given 4 (some .long)) B.pre
  have htb : ∀ w ∈ zw, w.before _ s = true := fun w h => hts w (List.mem_cons_of_mem _ h)
  have hown : s.vm.findClass RX6 = some m.cls := findClass_of_methodNamed B.named
  have hlocks := B.notSynchronized
  clear hts
  subst hsz
  have hD := hD0.self (sz := s.heap.size)
  generalize hAe : va_A (zX k q z) s.heap.size = A at hD ⊢
  have hA : ∀ q : Nat, s.heap.size ≤ q → A q := fun q h => by rw [← hAe]; exact Or.inr h
  have hDa : ∀ z9 : ZS, va_D A (zX k q z9) := fun z9 => va_D_adr (w := zX k q z) rfl hD
  have hl := lv_entry ([.ref (q 0), .int pe, .int w]) (n := 4) (Nat.le_of_ble_eq_true rfl)
  rw [lg_entry_eq]
  generalize (lg_sl ([.ref (q 0), .int pe, .int w]) ++ List.replicate (4 - (lg_sl ([.ref (q 0), .int pe, .int w])).length) Slot.unset).toArray = ls at hl ⊢
  have hl : lv_has ls 4 [(0, .ref (q 0)), (1, .int pe), (2, .int w)] := hl
  refine z_start2 (A := A) (w := (zX k q z)) hP (fun H locs hP hS => ?_)
  clear hD0 hAe
  have hT : trX z = trX z := rfl
  refine lv_iload_n hx hb dX6_given_0 rfl (lv_at hl 1 rfl) ?_
  refine zc0_i (w := (zX k q z)) (va_runS (As := [.int pe]) (rest := []) ⟨hx, hb, hml, hown, htb⟩ (c_X6_isPerson l dC dI k pe _ ) (va_cwS 1 htb (gzS wmt2_77 wmt2_78 wmt1_1 wmt2_79) rfl rfl rfl (by decide +kernel) ⟨Nat.le_of_ble_eq_true rfl, Nat.le_of_ble_eq_true rfl⟩) (zp0_S hK) rfl rfl hl.1 rfl (lv_room (Nat.le_of_ble_eq_true rfl)) dX6_given_1 ⟨Nat.le_of_ble_eq_true rfl, Nat.le_of_ble_eq_true rfl⟩) hP hS hA (fun r_1 u_2 H locs w_3 hP hS => ?_)
  rcases w_3 with ⟨e_5, h_4⟩ | ⟨e_7, h_6⟩
  · skip
    replace e_5 : r_1 = 1 := e_5
    subst e_5
    replace h_4 : 0 ≤ pe.toInt ∧ pe.toInt < 24 := h_4
    refine lv_if_eq (tgt := 14) hx hb dX6_given_4 (by decide) (fun c_8 => ?_) (fun c_8 => ?_)
    · skip
      exact absurd c_8 (by decide)
    · skip
      refine lv_iload_n hx hb dX6_given_7 rfl (lv_at hl 2 rfl) ?_
      refine zc0_i (w := (zX k q z)) (va_runS (As := [.int w]) (rest := []) ⟨hx, hb, hml, hown, htb⟩ (c_X6_isEither l dC dI k w _ ) (va_cwS 1 htb (gzS wmt2_48 wmt2_49 wmt1_1 wmt2_50) rfl rfl rfl (by decide +kernel) ⟨Nat.le_of_ble_eq_true rfl, Nat.le_of_ble_eq_true rfl⟩) (zp0_S hK) rfl rfl hl.1 rfl (lv_room (Nat.le_of_ble_eq_true rfl)) dX6_given_8 ⟨Nat.le_of_ble_eq_true rfl, Nat.le_of_ble_eq_true rfl⟩) hP hS hA (fun r_9 u_10 H locs w_11 hP hS => ?_)
      rcases w_11 with ⟨e_13, h_12⟩ | ⟨e_15, h_14⟩
      · skip
        replace e_13 : r_9 = 1 := e_13
        subst e_13
        replace h_12 : 0 ≤ w.toInt ∧ w.toInt < 2 := h_12
        refine lv_if_ne (tgt := 20) hx hb dX6_given_11 (by decide) (fun c_16 => ?_) (fun c_16 => ?_)
        · skip
          refine lv_aload_n hx hb dX6_given_20 rfl (lv_at hl 0 rfl) ?_
          refine lv_iload_n hx hb dX6_given_21 rfl (lv_at hl 1 rfl) ?_
          refine zcA_i (w := (zX k q z)) (va_runV (As := [.int pe]) (rest := []) ⟨hx, hb, hml, hown, htb⟩ (c_X6_multiplyGivenAway l dC dI k q z pe _ hI) (cwV 1 htb (gzV wmt2_237 wmt2_239 wmp1_15 wmt1_1 wmt3_0) rfl rfl rfl (by decide +kernel) ⟨Nat.le_of_ble_eq_true rfl, Nat.le_of_ble_eq_true rfl⟩) (zpA_V (ci := 6) (q0 := 0) hK hP (hDa _) rfl rfl) rfl rfl hl.1 rfl (lv_room (Nat.le_of_ble_eq_true rfl)) dX6_given_22 ⟨Nat.le_of_ble_eq_true rfl, Nat.le_of_ble_eq_true rfl⟩) (hDa _) hS hA (fun r_17 u_18 H locs w_19 hP _ hS => ?_)
          obtain ⟨h_20, h_21, h_22⟩ := w_19
          replace h_20 : XInv u_18 := h_20
          replace h_21 : trX u_18 = trX z := h_21
          replace h_22 : PK (u_18.1 5) (u_18.2.2.1 6) (u_18.2.2.1 7) (u_18.1 6) := h_22
          have hI := h_20
          have hT := h_21.trans hT
          refine lv_istore_n (lv' := [(3, .int r_17), (0, .ref (q 0)), (1, .int pe), (2, .int w)]) hx hb dX6_given_25 rfl hl (by decide) rfl (fun ls hl => ?_)
          refine lv_iload_n hx hb dX6_given_26 rfl (lv_at hl 0 rfl) ?_
          refine lv_if_eq (tgt := 45) hx hb dX6_given_27 (by decide) (fun c_24 => ?_) (fun c_24 => ?_)
          · skip
            have hc_24 := zb_eq rfl (show (0 : Int32).toInt = 0 by decide) c_24
            refine lv_aload_n hx hb dX6_given_45 rfl (lv_at hl 1 rfl) ?_
            refine va_get (D := (dC, dI)) (ci := 6) (v := .ref (q 15)) (C := RX6) (T := TX6) (N := 12) hx hb htb inw6 hown hK.1 hP 0 rfl rfl 6 (by decide) (htb _ wmt1_176) (fun _ h9 => h9) rfl dX6_given_46 ?_
            refine lv_iload_n hx hb dX6_given_49 rfl (lv_at hl 3 rfl) ?_
            refine zcS_l (w := (zX k q u_18)) (wc := (zF k (qof q 15) (xF u_18))) (va_runV (As := [.int w]) (rest := []) ⟨hx, hb, hml, hown, htb⟩ (c_X2_told l dC dI k (qof q 15) (xF u_18) w _ ) (cwV 1 htb (gzV wmt2_61 wmt2_62 wmt2_63 wmt1_5 wmt2_64) rfl rfl rfl (by decide +kernel) ⟨Nat.le_of_ble_eq_true rfl, Nat.le_of_ble_eq_true rfl⟩) (zp_V (ci := 2) (q0 := 15) hK hP (hDa _) [15] rfl (by decide) rfl rfl) rfl rfl hl.1 rfl (lv_room (Nat.le_of_ble_eq_true rfl)) dX6_given_50 ⟨Nat.le_of_ble_eq_true rfl, Nat.le_of_ble_eq_true rfl⟩) hP (hDa _) hS hA [15] rfl (fun _ => rfl) (fun r_25 u_26 H locs w_27 hP _ hS => ?_)
            have hP : va_P (dC, dI) vwCl (zX k q u_18) H := hP
            have h_28 := w_27
            replace h_28 : (w.toInt = 0 → r_25 = (xF u_18).2.1 0) ∧ (¬ w.toInt = 0 → r_25 = (xF u_18).2.1 1) := h_28
            exact W.lret (v := r_25) hx hb hr (fun t ht hW => ⟨⟨r_25, u_18, rfl, ⟨hI, hT⟩, ⟨by rw [ht]; exact hP, hDa _⟩⟩, hS.F ht⟩) hS.2.2 dX6_given_53
          · skip
            have hc_24 := zb_ne rfl (show (0 : Int32).toInt = 0 by decide) c_24
            refine lv_iload_n hx hb dX6_given_30 rfl (lv_at hl 0 rfl) ?_
            refine lv_iconst (v := (-1)) hx hb dX6_given_31 (by decide) ?_
            refine lv_icmp_ne (tgt := 40) hx hb dX6_given_32 (by decide) (fun c_30 => ?_) (fun c_30 => ?_)
            · skip
              have hc_30 := zb_ne rfl (show ((-1) : Int32).toInt = (-1) by decide) c_30
              refine lv_iload_n hx hb dX6_given_40 rfl (lv_at hl 0 rfl) ?_
              refine zc0_l (w := (zX k q u_18)) (va_runS (As := [.int r_17]) (rest := []) ⟨hx, hb, hml, hown, htb⟩ (c_X6_asLong l dC dI k r_17 _ ) (va_cwS 1 htb (gzS wmt2_51 wmt2_52 wmt1_1 wmt2_53) rfl rfl rfl (by decide +kernel) ⟨Nat.le_of_ble_eq_true rfl, Nat.le_of_ble_eq_true rfl⟩) (zp0_S hK) rfl rfl hl.1 rfl (lv_room (Nat.le_of_ble_eq_true rfl)) dX6_given_41 ⟨Nat.le_of_ble_eq_true rfl, Nat.le_of_ble_eq_true rfl⟩) hP hS hA (fun r_31 u_32 H locs w_33 hP hS => ?_)
              have h_34 := w_33
              replace h_34 : r_31.toInt = tl r_17 := h_34
              exact W.lret (v := r_31) hx hb hr (fun t ht hW => ⟨⟨r_31, u_18, rfl, ⟨hI, hT⟩, ⟨by rw [ht]; exact hP, hDa _⟩⟩, hS.F ht⟩) hS.2.2 dX6_given_44
            · skip
              have hc_30 := zb_eq rfl (show ((-1) : Int32).toInt = (-1) by decide) c_30
              refine lv_bipush (v := (-3)) hx hb dX6_given_35 (by decide) ?_
              refine lv_goto (tgt := 41) hx hb dX6_given_37 (by decide) ?_
              refine zc0_l (w := (zX k q u_18)) (va_runS (As := [.int (-3)]) (rest := []) ⟨hx, hb, hml, hown, htb⟩ (c_X6_asLong l dC dI k (-3) _ ) (va_cwS 1 htb (gzS wmt2_51 wmt2_52 wmt1_1 wmt2_53) rfl rfl rfl (by decide +kernel) ⟨Nat.le_of_ble_eq_true rfl, Nat.le_of_ble_eq_true rfl⟩) (zp0_S hK) rfl rfl hl.1 rfl (lv_room (Nat.le_of_ble_eq_true rfl)) dX6_given_41 ⟨Nat.le_of_ble_eq_true rfl, Nat.le_of_ble_eq_true rfl⟩) hP hS hA (fun r_36 u_37 H locs w_38 hP hS => ?_)
              have h_39 := w_38
              replace h_39 : r_36.toInt = tl ((-3) : Int32) := h_39
              exact W.lret (v := r_36) hx hb hr (fun t ht hW => ⟨⟨r_36, u_18, rfl, ⟨hI, hT⟩, ⟨by rw [ht]; exact hP, hDa _⟩⟩, hS.F ht⟩) hS.2.2 dX6_given_44
        · skip
          exact absurd c_16 (by decide)
      · skip
        replace e_15 : r_9 = 0 := e_15
        subst e_15
        replace h_14 : ¬ (0 ≤ w.toInt ∧ w.toInt < 2) := h_14
        refine lv_if_ne (tgt := 20) hx hb dX6_given_11 (by decide) (fun c_41 => ?_) (fun c_41 => ?_)
        · skip
          exact absurd c_41 (by decide)
        · skip
          refine lv_bipush (v := (-2)) hx hb dX6_given_14 (by decide) ?_
          refine zc0_l (w := (zX k q z)) (va_runS (As := [.int (-2)]) (rest := []) ⟨hx, hb, hml, hown, htb⟩ (c_X6_asLong l dC dI k (-2) _ ) (va_cwS 1 htb (gzS wmt2_51 wmt2_52 wmt1_1 wmt2_53) rfl rfl rfl (by decide +kernel) ⟨Nat.le_of_ble_eq_true rfl, Nat.le_of_ble_eq_true rfl⟩) (zp0_S hK) rfl rfl hl.1 rfl (lv_room (Nat.le_of_ble_eq_true rfl)) dX6_given_16 ⟨Nat.le_of_ble_eq_true rfl, Nat.le_of_ble_eq_true rfl⟩) hP hS hA (fun r_42 u_43 H locs w_44 hP hS => ?_)
          have h_45 := w_44
          replace h_45 : r_42.toInt = tl ((-2) : Int32) := h_45
          exact W.lret (v := r_42) hx hb hr (fun t ht hW => ⟨⟨r_42, z, rfl, ⟨hI, hT⟩, ⟨by rw [ht]; exact hP, hDa _⟩⟩, hS.F ht⟩) hS.2.2 dX6_given_19
  · skip
    replace e_7 : r_1 = 0 := e_7
    subst e_7
    replace h_6 : ¬ (0 ≤ pe.toInt ∧ pe.toInt < 24) := h_6
    refine lv_if_eq (tgt := 14) hx hb dX6_given_4 (by decide) (fun c_47 => ?_) (fun c_47 => ?_)
    · skip
      refine lv_bipush (v := (-2)) hx hb dX6_given_14 (by decide) ?_
      refine zc0_l (w := (zX k q z)) (va_runS (As := [.int (-2)]) (rest := []) ⟨hx, hb, hml, hown, htb⟩ (c_X6_asLong l dC dI k (-2) _ ) (va_cwS 1 htb (gzS wmt2_51 wmt2_52 wmt1_1 wmt2_53) rfl rfl rfl (by decide +kernel) ⟨Nat.le_of_ble_eq_true rfl, Nat.le_of_ble_eq_true rfl⟩) (zp0_S hK) rfl rfl hl.1 rfl (lv_room (Nat.le_of_ble_eq_true rfl)) dX6_given_16 ⟨Nat.le_of_ble_eq_true rfl, Nat.le_of_ble_eq_true rfl⟩) hP hS hA (fun r_48 u_49 H locs w_50 hP hS => ?_)
      have h_51 := w_50
      replace h_51 : r_48.toInt = tl ((-2) : Int32) := h_51
      exact W.lret (v := r_48) hx hb hr (fun t ht hW => ⟨⟨r_48, z, rfl, ⟨hI, hT⟩, ⟨by rw [ht]; exact hP, hDa _⟩⟩, hS.F ht⟩) hS.2.2 dX6_given_19
    · skip
      exact absurd (by decide) c_47
set_option maxHeartbeats 4000000 in
set_option maxRecDepth 100000 in
theorem c_X6_has (l : Launch) (dC : Nat → ClassId) (dI : Nat → Nat → Nat) (k : Nat → ClassId) (q : Nat → Nat) (z : ZS) (pe : Int32) (n : Int32) (w : Int32) (sz : Nat) (hI : XInv z) : Met l yX6_has (wz yX6_has cX6_has 7 (some .long)) ({ frames := 5, cells := 0, slots := 0, locals := 115 }) (va_Pc [.ref (q 0), .int pe, .int n, .int w] (zPre dC dI k (zTX k) (zX k q z) sz)) (va_Ql (fun (r : Int64) (u : ZS) => (XInv u) ∧ (trX u = trX z)) (fun u t => zPost dC dI (va_A (zX k q z) sz) (zX k q u) t) (va_A (zX k q z) sz)) 0 0 (va_A (zX k q z) sz) := by
  refine Met.ofW (cc := cX6_has) (maxL := 7) (ret := (some .long)) (by decide) rfl ?_
  intro p e s m args below meth c s₁ B hml hv
  obtain ⟨rfl, hsz, hP, hK, hD0⟩ := hv
  have hx := B.exec
  have hb := B.bytes
  have hr := B.returns
  have hts := atoms_spec (ws := wz yX6_has cX6_has 7 (some .long)) B.pre
  have htb : ∀ w ∈ zw, w.before _ s = true := fun w h => hts w (List.mem_cons_of_mem _ h)
  have hown : s.vm.findClass RX6 = some m.cls := findClass_of_methodNamed B.named
  have hlocks := B.notSynchronized
  clear hts
  subst hsz
  have hD := hD0.self (sz := s.heap.size)
  generalize hAe : va_A (zX k q z) s.heap.size = A at hD ⊢
  have hA : ∀ q : Nat, s.heap.size ≤ q → A q := fun q h => by rw [← hAe]; exact Or.inr h
  have hDa : ∀ z9 : ZS, va_D A (zX k q z9) := fun z9 => va_D_adr (w := zX k q z) rfl hD
  have hl := lv_entry ([.ref (q 0), .int pe, .int n, .int w]) (n := 7) (Nat.le_of_ble_eq_true rfl)
  rw [lg_entry_eq]
  generalize (lg_sl ([.ref (q 0), .int pe, .int n, .int w]) ++ List.replicate (7 - (lg_sl ([.ref (q 0), .int pe, .int n, .int w])).length) Slot.unset).toArray = ls at hl ⊢
  have hl : lv_has ls 7 [(0, .ref (q 0)), (1, .int pe), (2, .int n), (3, .int w)] := hl
  refine z_start2 (A := A) (w := (zX k q z)) hP (fun H locs hP hS => ?_)
  clear hD0 hAe
  have hT : trX z = trX z := rfl
  refine lv_iload_n hx hb dX6_has_0 rfl (lv_at hl 1 rfl) ?_
  refine zc0_i (w := (zX k q z)) (va_runS (As := [.int pe]) (rest := []) ⟨hx, hb, hml, hown, htb⟩ (c_X6_isPerson l dC dI k pe _ ) (va_cwS 1 htb (gzS wmt2_77 wmt2_78 wmt1_1 wmt2_79) rfl rfl rfl (by decide +kernel) ⟨Nat.le_of_ble_eq_true rfl, Nat.le_of_ble_eq_true rfl⟩) (zp0_S hK) rfl rfl hl.1 rfl (lv_room (Nat.le_of_ble_eq_true rfl)) dX6_has_1 ⟨Nat.le_of_ble_eq_true rfl, Nat.le_of_ble_eq_true rfl⟩) hP hS hA (fun r_1 u_2 H locs w_3 hP hS => ?_)
  rcases w_3 with ⟨e_5, h_4⟩ | ⟨e_7, h_6⟩
  · skip
    replace e_5 : r_1 = 1 := e_5
    subst e_5
    replace h_4 : 0 ≤ pe.toInt ∧ pe.toInt < 24 := h_4
    refine lv_if_eq (tgt := 25) hx hb dX6_has_4 (by decide) (fun c_8 => ?_) (fun c_8 => ?_)
    · skip
      exact absurd c_8 (by decide)
    · skip
      refine lv_iload_n hx hb dX6_has_7 rfl (lv_at hl 2 rfl) ?_
      refine lv_iconst (v := 1) hx hb dX6_has_8 (by decide) ?_
      refine lv_icmp_lt (tgt := 25) hx hb dX6_has_9 (by decide) (fun c_9 => ?_) (fun c_9 => ?_)
      · skip
        have hc_9 := zb_lt rfl (show (1 : Int32).toInt = 1 by decide) c_9
        refine lv_bipush (v := (-2)) hx hb dX6_has_25 (by decide) ?_
        refine zc0_l (w := (zX k q z)) (va_runS (As := [.int (-2)]) (rest := []) ⟨hx, hb, hml, hown, htb⟩ (c_X6_asLong l dC dI k (-2) _ ) (va_cwS 1 htb (gzS wmt2_51 wmt2_52 wmt1_1 wmt2_53) rfl rfl rfl (by decide +kernel) ⟨Nat.le_of_ble_eq_true rfl, Nat.le_of_ble_eq_true rfl⟩) (zp0_S hK) rfl rfl hl.1 rfl (lv_room (Nat.le_of_ble_eq_true rfl)) dX6_has_27 ⟨Nat.le_of_ble_eq_true rfl, Nat.le_of_ble_eq_true rfl⟩) hP hS hA (fun r_10 u_11 H locs w_12 hP hS => ?_)
        have h_13 := w_12
        replace h_13 : r_10.toInt = tl ((-2) : Int32) := h_13
        exact W.lret (v := r_10) hx hb hr (fun t ht hW => ⟨⟨r_10, z, rfl, ⟨hI, hT⟩, ⟨by rw [ht]; exact hP, hDa _⟩⟩, hS.F ht⟩) hS.2.2 dX6_has_30
      · skip
        have hc_9 := zb_nlt rfl (show (1 : Int32).toInt = 1 by decide) c_9
        refine lv_iload_n hx hb dX6_has_12 rfl (lv_at hl 2 rfl) ?_
        refine lv_bipush (v := 99) hx hb dX6_has_13 (by decide) ?_
        refine lv_icmp_gt (tgt := 25) hx hb dX6_has_15 (by decide) (fun c_15 => ?_) (fun c_15 => ?_)
        · skip
          have hc_15 := zb_lt (show (99 : Int32).toInt = 99 by decide) rfl c_15
          refine lv_bipush (v := (-2)) hx hb dX6_has_25 (by decide) ?_
          refine zc0_l (w := (zX k q z)) (va_runS (As := [.int (-2)]) (rest := []) ⟨hx, hb, hml, hown, htb⟩ (c_X6_asLong l dC dI k (-2) _ ) (va_cwS 1 htb (gzS wmt2_51 wmt2_52 wmt1_1 wmt2_53) rfl rfl rfl (by decide +kernel) ⟨Nat.le_of_ble_eq_true rfl, Nat.le_of_ble_eq_true rfl⟩) (zp0_S hK) rfl rfl hl.1 rfl (lv_room (Nat.le_of_ble_eq_true rfl)) dX6_has_27 ⟨Nat.le_of_ble_eq_true rfl, Nat.le_of_ble_eq_true rfl⟩) hP hS hA (fun r_16 u_17 H locs w_18 hP hS => ?_)
          have h_19 := w_18
          replace h_19 : r_16.toInt = tl ((-2) : Int32) := h_19
          exact W.lret (v := r_16) hx hb hr (fun t ht hW => ⟨⟨r_16, z, rfl, ⟨hI, hT⟩, ⟨by rw [ht]; exact hP, hDa _⟩⟩, hS.F ht⟩) hS.2.2 dX6_has_30
        · skip
          have hc_15 := zb_nlt (show (99 : Int32).toInt = 99 by decide) rfl c_15
          refine lv_iload_n hx hb dX6_has_18 rfl (lv_at hl 3 rfl) ?_
          refine zc0_i (w := (zX k q z)) (va_runS (As := [.int w]) (rest := []) ⟨hx, hb, hml, hown, htb⟩ (c_X6_isEither l dC dI k w _ ) (va_cwS 1 htb (gzS wmt2_48 wmt2_49 wmt1_1 wmt2_50) rfl rfl rfl (by decide +kernel) ⟨Nat.le_of_ble_eq_true rfl, Nat.le_of_ble_eq_true rfl⟩) (zp0_S hK) rfl rfl hl.1 rfl (lv_room (Nat.le_of_ble_eq_true rfl)) dX6_has_19 ⟨Nat.le_of_ble_eq_true rfl, Nat.le_of_ble_eq_true rfl⟩) hP hS hA (fun r_21 u_22 H locs w_23 hP hS => ?_)
          rcases w_23 with ⟨e_25, h_24⟩ | ⟨e_27, h_26⟩
          · skip
            replace e_25 : r_21 = 1 := e_25
            subst e_25
            replace h_24 : 0 ≤ w.toInt ∧ w.toInt < 2 := h_24
            refine lv_if_ne (tgt := 31) hx hb dX6_has_22 (by decide) (fun c_28 => ?_) (fun c_28 => ?_)
            · skip
              refine lv_aload_n hx hb dX6_has_31 rfl (lv_at hl 0 rfl) ?_
              refine lv_iload_n hx hb dX6_has_32 rfl (lv_at hl 1 rfl) ?_
              refine zcA_i (w := (zX k q z)) (va_runV (As := [.int pe]) (rest := []) ⟨hx, hb, hml, hown, htb⟩ (c_X6_multiplyGivenAway l dC dI k q z pe _ hI) (cwV 1 htb (gzV wmt2_237 wmt2_239 wmp1_15 wmt1_1 wmt3_0) rfl rfl rfl (by decide +kernel) ⟨Nat.le_of_ble_eq_true rfl, Nat.le_of_ble_eq_true rfl⟩) (zpA_V (ci := 6) (q0 := 0) hK hP (hDa _) rfl rfl) rfl rfl hl.1 rfl (lv_room (Nat.le_of_ble_eq_true rfl)) dX6_has_33 ⟨Nat.le_of_ble_eq_true rfl, Nat.le_of_ble_eq_true rfl⟩) (hDa _) hS hA (fun r_29 u_30 H locs w_31 hP _ hS => ?_)
              obtain ⟨h_32, h_33, h_34⟩ := w_31
              replace h_32 : XInv u_30 := h_32
              replace h_33 : trX u_30 = trX z := h_33
              replace h_34 : PK (u_30.1 5) (u_30.2.2.1 6) (u_30.2.2.1 7) (u_30.1 6) := h_34
              have hI := h_32
              have hT := h_33.trans hT
              refine lv_istore (lv' := [(4, .int r_29), (0, .ref (q 0)), (1, .int pe), (2, .int n), (3, .int w)]) hx hb dX6_has_36 hl (by decide) rfl (fun ls hl => ?_)
              refine lv_iload hx hb dX6_has_38 (lv_at hl 0 rfl) ?_
              refine lv_iconst (v := (-1)) hx hb dX6_has_40 (by decide) ?_
              refine lv_icmp_ne (tgt := 46) hx hb dX6_has_41 (by decide) (fun c_36 => ?_) (fun c_36 => ?_)
              · skip
                have hc_36 := zb_ne rfl (show ((-1) : Int32).toInt = (-1) by decide) c_36
                refine lv_iload hx hb dX6_has_46 (lv_at hl 0 rfl) ?_
                refine lv_if_eq (tgt := 57) hx hb dX6_has_48 (by decide) (fun c_37 => ?_) (fun c_37 => ?_)
                · skip
                  have hc_37 := zb_eq rfl (show (0 : Int32).toInt = 0 by decide) c_37
                  refine lv_iload_n hx hb dX6_has_57 rfl (lv_at hl 3 rfl) ?_
                  refine lv_i2l (v := n.toInt64) hx hb dX6_has_58 rfl ?_
                  refine lv_topl (fun x_38 ex_38 => ?_)
                  have hx_38 : x_38.toInt = n.toInt := by rw [ex_38]; exact Jvm.Kit.i64_of_i32 _
                  refine lv_aload_n hx hb dX6_has_59 rfl (lv_at hl 1 rfl) ?_
                  refine va_get (D := (dC, dI)) (ci := 6) (v := .ref (q 15)) (C := RX6) (T := TX6) (N := 12) hx hb htb inw6 hown hK.1 hP 0 rfl rfl 6 (by decide) (htb _ wmt1_176) (fun _ h9 => h9) rfl dX6_has_60 ?_
                  refine va_get (D := (dC, dI)) (ci := 2) (v := .long (u_30.2.1 0)) (C := RX2) (T := TX2) (N := 2) hx hb htb inw2 hown hK.1 hP 15 rfl rfl 0 (by decide) (htb _ wmt1_104) (fun _ h9 => h9) rfl dX6_has_63 ?_
                  refine lv_topl (fun x_39 ex_39 => ?_)
                  have hx_39 : x_39.toInt = (u_30.2.1 0).toInt := by rw [ex_39]
                  refine lv_lmul hx hb dX6_has_66 ?_
                  refine lv_topl (fun x_40 ex_40 => ?_)
                  refine lv_lstore (lv' := [(5, .long x_40), (4, .int r_29), (0, .ref (q 0)), (1, .int pe), (2, .int n), (3, .int w)]) hx hb dX6_has_67 hl (by decide) rfl (fun ls hl => ?_)
                  refine lv_aload_n hx hb dX6_has_69 rfl (lv_at hl 2 rfl) ?_
                  refine va_get (D := (dC, dI)) (ci := 6) (v := .ref (q 15)) (C := RX6) (T := TX6) (N := 12) hx hb htb inw6 hown hK.1 hP 0 rfl rfl 6 (by decide) (htb _ wmt1_176) (fun _ h9 => h9) rfl dX6_has_70 ?_
                  refine lv_lload hx hb dX6_has_73 (lv_at hl 0 rfl) ?_
                  refine lv_lload hx hb dX6_has_75 (lv_at hl 0 rfl) ?_
                  refine lv_bipush (v := 100) hx hb dX6_has_77 (by decide) ?_
                  refine lv_iload_n hx hb dX6_has_79 rfl (lv_at hl 4 rfl) ?_
                  refine lv_isub hx hb dX6_has_80 ?_
                  refine lv_topi (fun x_41 ex_41 => ?_)
                  refine lv_i2l (v := x_41.toInt64) hx hb dX6_has_81 rfl ?_
                  refine lv_topl (fun x_42 ex_42 => ?_)
                  have hx_42 : x_42.toInt = x_41.toInt := by rw [ex_42]; exact Jvm.Kit.i64_of_i32 _
                  refine lv_aload_n hx hb dX6_has_82 rfl (lv_at hl 2 rfl) ?_
                  refine va_get (D := (dC, dI)) (ci := 6) (v := .ref (q 15)) (C := RX6) (T := TX6) (N := 12) hx hb htb inw6 hown hK.1 hP 0 rfl rfl 6 (by decide) (htb _ wmt1_176) (fun _ h9 => h9) rfl dX6_has_83 ?_
                  refine va_get (D := (dC, dI)) (ci := 2) (v := .long (u_30.2.1 1)) (C := RX2) (T := TX2) (N := 2) hx hb htb inw2 hown hK.1 hP 15 rfl rfl 1 (by decide) (htb _ wmt1_106) (fun _ h9 => h9) rfl dX6_has_86 ?_
                  refine lv_topl (fun x_43 ex_43 => ?_)
                  have hx_43 : x_43.toInt = (u_30.2.1 1).toInt := by rw [ex_43]
                  refine lv_lmul hx hb dX6_has_89 ?_
                  refine lv_topl (fun x_44 ex_44 => ?_)
                  refine lv_ladd hx hb dX6_has_90 ?_
                  refine lv_topl (fun x_45 ex_45 => ?_)
                  refine zcS_v (w := (zX k q u_30)) (wc := (zF k (qof q 15) (xF u_30))) (va_runV (As := [.long x_40, .long x_45]) (rest := []) ⟨hx, hb, hml, hown, htb⟩ (c_X2_become l dC dI k (qof q 15) (xF u_30) x_40 x_45 _ ) (cwV 2 htb (gzV wmt2_56 wmt2_57 wmt2_58 wmt1_5 wmt2_59) rfl rfl rfl (by decide +kernel) ⟨Nat.le_of_ble_eq_true rfl, Nat.le_of_ble_eq_true rfl⟩) (zp_V (ci := 2) (q0 := 15) hK hP (hDa _) [15] rfl (by decide) rfl rfl) rfl rfl hl.1 rfl (lv_room (Nat.le_of_ble_eq_true rfl)) dX6_has_91 ⟨Nat.le_of_ble_eq_true rfl, Nat.le_of_ble_eq_true rfl⟩) hP (hDa _) hS hA [15] rfl (fun _ => rfl) (fun u_47 H locs w_48 hP _ hS => ?_)
                  have hP : va_P (dC, dI) vwCl (zX k q (sJ (sJ u_30 0 (u_47.2.1 0)) 1 (u_47.2.1 1))) H := hP
                  refine lv_aload_n hx hb dX6_has_94 rfl (lv_at hl 2 rfl) ?_
                  refine va_get (D := (dC, dI)) (ci := 6) (v := .ref (q 15)) (C := RX6) (T := TX6) (N := 12) hx hb htb inw6 hown hK.1 hP 0 rfl rfl 6 (by decide) (htb _ wmt1_176) (fun _ h9 => h9) rfl dX6_has_95 ?_
                  refine lv_iload_n hx hb dX6_has_98 rfl (lv_at hl 5 rfl) ?_
                  refine zcS_l (w := (zX k q (sJ (sJ u_30 0 (u_47.2.1 0)) 1 (u_47.2.1 1)))) (wc := (zF k (qof q 15) (xF (sJ (sJ u_30 0 (u_47.2.1 0)) 1 (u_47.2.1 1))))) (va_runV (As := [.int w]) (rest := []) ⟨hx, hb, hml, hown, htb⟩ (c_X2_told l dC dI k (qof q 15) (xF (sJ (sJ u_30 0 (u_47.2.1 0)) 1 (u_47.2.1 1))) w _ ) (cwV 1 htb (gzV wmt2_61 wmt2_62 wmt2_63 wmt1_5 wmt2_64) rfl rfl rfl (by decide +kernel) ⟨Nat.le_of_ble_eq_true rfl, Nat.le_of_ble_eq_true rfl⟩) (zp_V (ci := 2) (q0 := 15) hK hP (hDa _) [15] rfl (by decide) rfl rfl) rfl rfl hl.1 rfl (lv_room (Nat.le_of_ble_eq_true rfl)) dX6_has_99 ⟨Nat.le_of_ble_eq_true rfl, Nat.le_of_ble_eq_true rfl⟩) hP (hDa _) hS hA [15] rfl (fun _ => rfl) (fun r_49 u_50 H locs w_51 hP _ hS => ?_)
                  have hP : va_P (dC, dI) vwCl (zX k q (sJ (sJ u_30 0 (u_47.2.1 0)) 1 (u_47.2.1 1))) H := hP
                  have h_52 := w_51
                  replace h_52 : (w.toInt = 0 → r_49 = (xF (sJ (sJ u_30 0 (u_47.2.1 0)) 1 (u_47.2.1 1))).2.1 0) ∧ (¬ w.toInt = 0 → r_49 = (xF (sJ (sJ u_30 0 (u_47.2.1 0)) 1 (u_47.2.1 1))).2.1 1) := h_52
                  exact W.lret (v := r_49) hx hb hr (fun t ht hW => ⟨⟨r_49, (sJ (sJ u_30 0 (u_47.2.1 0)) 1 (u_47.2.1 1)), rfl, ⟨hI, hT⟩, ⟨by rw [ht]; exact hP, hDa _⟩⟩, hS.F ht⟩) hS.2.2 dX6_has_102
                · skip
                  have hc_37 := zb_ne rfl (show (0 : Int32).toInt = 0 by decide) c_37
                  refine lv_iload hx hb dX6_has_51 (lv_at hl 0 rfl) ?_
                  refine zc0_l (w := (zX k q u_30)) (va_runS (As := [.int r_29]) (rest := []) ⟨hx, hb, hml, hown, htb⟩ (c_X6_asLong l dC dI k r_29 _ ) (va_cwS 1 htb (gzS wmt2_51 wmt2_52 wmt1_1 wmt2_53) rfl rfl rfl (by decide +kernel) ⟨Nat.le_of_ble_eq_true rfl, Nat.le_of_ble_eq_true rfl⟩) (zp0_S hK) rfl rfl hl.1 rfl (lv_room (Nat.le_of_ble_eq_true rfl)) dX6_has_53 ⟨Nat.le_of_ble_eq_true rfl, Nat.le_of_ble_eq_true rfl⟩) hP hS hA (fun r_54 u_55 H locs w_56 hP hS => ?_)
                  have h_57 := w_56
                  replace h_57 : r_54.toInt = tl r_29 := h_57
                  exact W.lret (v := r_54) hx hb hr (fun t ht hW => ⟨⟨r_54, u_30, rfl, ⟨hI, hT⟩, ⟨by rw [ht]; exact hP, hDa _⟩⟩, hS.F ht⟩) hS.2.2 dX6_has_56
              · skip
                have hc_36 := zb_eq rfl (show ((-1) : Int32).toInt = (-1) by decide) c_36
                refine lv_lconst (v := 1) hx hb dX6_has_44 (by decide) ?_
                exact W.lret (v := 1) hx hb hr (fun t ht hW => ⟨⟨1, u_30, rfl, ⟨hI, hT⟩, ⟨by rw [ht]; exact hP, hDa _⟩⟩, hS.F ht⟩) hS.2.2 dX6_has_45
            · skip
              exact absurd c_28 (by decide)
          · skip
            replace e_27 : r_21 = 0 := e_27
            subst e_27
            replace h_26 : ¬ (0 ≤ w.toInt ∧ w.toInt < 2) := h_26
            refine lv_if_ne (tgt := 31) hx hb dX6_has_22 (by decide) (fun c_59 => ?_) (fun c_59 => ?_)
            · skip
              exact absurd c_59 (by decide)
            · skip
              refine lv_bipush (v := (-2)) hx hb dX6_has_25 (by decide) ?_
              refine zc0_l (w := (zX k q z)) (va_runS (As := [.int (-2)]) (rest := []) ⟨hx, hb, hml, hown, htb⟩ (c_X6_asLong l dC dI k (-2) _ ) (va_cwS 1 htb (gzS wmt2_51 wmt2_52 wmt1_1 wmt2_53) rfl rfl rfl (by decide +kernel) ⟨Nat.le_of_ble_eq_true rfl, Nat.le_of_ble_eq_true rfl⟩) (zp0_S hK) rfl rfl hl.1 rfl (lv_room (Nat.le_of_ble_eq_true rfl)) dX6_has_27 ⟨Nat.le_of_ble_eq_true rfl, Nat.le_of_ble_eq_true rfl⟩) hP hS hA (fun r_60 u_61 H locs w_62 hP hS => ?_)
              have h_63 := w_62
              replace h_63 : r_60.toInt = tl ((-2) : Int32) := h_63
              exact W.lret (v := r_60) hx hb hr (fun t ht hW => ⟨⟨r_60, z, rfl, ⟨hI, hT⟩, ⟨by rw [ht]; exact hP, hDa _⟩⟩, hS.F ht⟩) hS.2.2 dX6_has_30
  · skip
    replace e_7 : r_1 = 0 := e_7
    subst e_7
    replace h_6 : ¬ (0 ≤ pe.toInt ∧ pe.toInt < 24) := h_6
    refine lv_if_eq (tgt := 25) hx hb dX6_has_4 (by decide) (fun c_65 => ?_) (fun c_65 => ?_)
    · skip
      refine lv_bipush (v := (-2)) hx hb dX6_has_25 (by decide) ?_
      refine zc0_l (w := (zX k q z)) (va_runS (As := [.int (-2)]) (rest := []) ⟨hx, hb, hml, hown, htb⟩ (c_X6_asLong l dC dI k (-2) _ ) (va_cwS 1 htb (gzS wmt2_51 wmt2_52 wmt1_1 wmt2_53) rfl rfl rfl (by decide +kernel) ⟨Nat.le_of_ble_eq_true rfl, Nat.le_of_ble_eq_true rfl⟩) (zp0_S hK) rfl rfl hl.1 rfl (lv_room (Nat.le_of_ble_eq_true rfl)) dX6_has_27 ⟨Nat.le_of_ble_eq_true rfl, Nat.le_of_ble_eq_true rfl⟩) hP hS hA (fun r_66 u_67 H locs w_68 hP hS => ?_)
      have h_69 := w_68
      replace h_69 : r_66.toInt = tl ((-2) : Int32) := h_69
      exact W.lret (v := r_66) hx hb hr (fun t ht hW => ⟨⟨r_66, z, rfl, ⟨hI, hT⟩, ⟨by rw [ht]; exact hP, hDa _⟩⟩, hS.F ht⟩) hS.2.2 dX6_has_30
    · skip
      exact absurd (by decide) c_65
set_option maxHeartbeats 4000000 in
set_option maxRecDepth 100000 in
theorem c_X6_mayBeAsked (l : Launch) (dC : Nat → ClassId) (dI : Nat → Nat → Nat) (k : Nat → ClassId) (q : Nat → Nat) (z : ZS) (pe : Int32) (d : Int32) (sz : Nat) (hI : XInv z) (hdd : 0 ≤ d.toInt ∧ d.toInt < 4) : Met l yX6_mayBeAsked (wz yX6_mayBeAsked cX6_mayBeAsked 11 (some .boolean)) ({ frames := 5, cells := 0, slots := 0, locals := 115 }) (va_Pc [.ref (q 0), .int pe, .int d] (zPre dC dI k (zTX k) (zX k q z) sz)) (va_Qi (fun (r : Int32) (u : ZS) => (XInv u) ∧ (trX u = trX z)) (fun u t => zPost dC dI (va_A (zX k q z) sz) (zX k q u) t) (va_A (zX k q z) sz)) 0 0 (va_A (zX k q z) sz) := by
  refine Met.ofW (cc := cX6_mayBeAsked) (maxL := 11) (ret := (some .boolean)) (by decide) rfl ?_
  intro p e s m args below meth c s₁ B hml hv
  obtain ⟨rfl, hsz, hP, hK, hD0⟩ := hv
  have hx := B.exec
  have hb := B.bytes
  have hr := B.returns
  have hts := atoms_spec (ws := wz yX6_mayBeAsked cX6_mayBeAsked 11 (some .boolean)) B.pre
  have htb : ∀ w ∈ zw, w.before _ s = true := fun w h => hts w (List.mem_cons_of_mem _ h)
  have hown : s.vm.findClass RX6 = some m.cls := findClass_of_methodNamed B.named
  have hlocks := B.notSynchronized
  clear hts
  subst hsz
  have hD := hD0.self (sz := s.heap.size)
  generalize hAe : va_A (zX k q z) s.heap.size = A at hD ⊢
  have hA : ∀ q : Nat, s.heap.size ≤ q → A q := fun q h => by rw [← hAe]; exact Or.inr h
  have hDa : ∀ z9 : ZS, va_D A (zX k q z9) := fun z9 => va_D_adr (w := zX k q z) rfl hD
  have hl := lv_entry ([.ref (q 0), .int pe, .int d]) (n := 11) (Nat.le_of_ble_eq_true rfl)
  rw [lg_entry_eq]
  generalize (lg_sl ([.ref (q 0), .int pe, .int d]) ++ List.replicate (11 - (lg_sl ([.ref (q 0), .int pe, .int d])).length) Slot.unset).toArray = ls at hl ⊢
  have hl : lv_has ls 11 [(0, .ref (q 0)), (1, .int pe), (2, .int d)] := hl
  refine z_start2 (A := A) (w := (zX k q z)) hP (fun H locs hP hS => ?_)
  clear hD0 hAe
  have hT : trX z = trX z := rfl
  refine lv_aload_n hx hb dX6_mayBeAsked_0 rfl (lv_at hl 0 rfl) ?_
  refine va_get (D := (dC, dI)) (ci := 6) (v := .ref (q 1)) (C := RX6) (T := TX6) (N := 12) hx hb htb inw6 hown hK.1 hP 0 rfl rfl 0 (by decide) (htb _ wmt1_170) (fun _ h9 => h9) rfl dX6_mayBeAsked_1 ?_
  refine lv_iload_n hx hb dX6_mayBeAsked_4 rfl (lv_at hl 2 rfl) ?_
  refine va_aldq (D := (dC, dI)) hx hb hK.1 hP 1 3 rfl rfl (z_in (by omega)) dX6_mayBeAsked_5 ?_
  obtain ⟨d_1, ed_1⟩ : ∃ x : Nat, x = d.toNatClampNeg := ⟨_, rfl⟩
  have hd_1 : d_1 < 4 := by rw [ed_1]; exact z_cl4 (by omega)
  refine z_top (v2 := .ref (qD q d_1 0)) (zgD_at2 ed_1 hd_1) ?_
  refine lv_astore_n (lv' := [(3, .ref (qD q d_1 0)), (0, .ref (q 0)), (1, .int pe), (2, .int d)]) hx hb dX6_mayBeAsked_6 rfl hl (by decide) rfl (fun ls hl => ?_)
  refine lv_aload_n hx hb dX6_mayBeAsked_7 rfl (lv_at hl 0 rfl) ?_
  refine zcS_i (w := (zX k q z)) (wc := (zD k (qD q d_1) (xD z d_1))) (va_runV (As := []) (rest := []) ⟨hx, hb, hml, hown, htb⟩ (c_X1_tells l dC dI k (qD q d_1) (xD z d_1) _ ) (cwV 0 htb (gzV wmt2_154 wmt2_155 wmt2_156 wmt1_6 wmt2_157) rfl rfl rfl (by decide +kernel) ⟨Nat.le_of_ble_eq_true rfl, Nat.le_of_ble_eq_true rfl⟩) (zp_V (ci := 1) (q0 := (16 + 3 * d_1)) hK hP (hDa _) [16 + 3 * d_1, 17 + 3 * d_1, 18 + 3 * d_1] (zX_DC hd_1) (zX_ndD hd_1) rfl (zX_D0 hd_1)) rfl rfl hl.1 rfl (lv_room (Nat.le_of_ble_eq_true rfl)) dX6_mayBeAsked_8 ⟨Nat.le_of_ble_eq_true rfl, Nat.le_of_ble_eq_true rfl⟩) hP (hDa _) hS hA [16 + 3 * d_1, 17 + 3 * d_1, 18 + 3 * d_1] (zX_DC hd_1) (fun _ => rfl) (fun r_2 u_3 H locs w_4 hP _ hS => ?_)
  have hP : va_P (dC, dI) vwCl (zX k q z) H := (zX_Dkeep hd_1) ▸ hP
  refine lv_if_eq (tgt := 25) hx hb dX6_mayBeAsked_11 (by decide) (fun c_5 => ?_) (fun c_5 => ?_)
  · skip
    have hc_5 := zb_eq rfl (show (0 : Int32).toInt = 0 by decide) c_5
    refine lv_iconst (v := 0) hx hb dX6_mayBeAsked_25 (by decide) ?_
    refine lv_istore (lv' := [(4, .int 0), (3, .ref (qD q d_1 0)), (0, .ref (q 0)), (1, .int pe), (2, .int d)]) hx hb dX6_mayBeAsked_26 hl (by decide) rfl (fun ls hl => ?_)
    refine lv_iload hx hb dX6_mayBeAsked_28 (lv_at hl 0 rfl) ?_
    refine lv_if_eq (tgt := 54) hx hb dX6_mayBeAsked_30 (by decide) (fun c_6 => ?_) (fun c_6 => ?_)
    · skip
      refine lv_iconst (v := 0) hx hb dX6_mayBeAsked_54 (by decide) ?_
      exact W.zret (v := 0) (ty := .boolean) hx hb hr rfl (fun t ht hW => ⟨⟨0, z, rfl, ⟨hI, hT⟩, ⟨by rw [ht]; exact hP, hDa _⟩⟩, hS.F ht⟩) hS.2.2 dX6_mayBeAsked_55
    · skip
      exact absurd (by decide) c_6
  · skip
    have hc_5 := zb_ne rfl (show (0 : Int32).toInt = 0 by decide) c_5
    refine lv_aload_n hx hb dX6_mayBeAsked_14 rfl (lv_at hl 0 rfl) ?_
    refine zcS_i (w := (zX k q z)) (wc := (zD k (qD q d_1) (xD z d_1))) (va_runV (As := []) (rest := []) ⟨hx, hb, hml, hown, htb⟩ (c_X1_isOpen l dC dI k (qD q d_1) (xD z d_1) _ ) (cwV 0 htb (gzV wmt3_30 wmt3_31 wmt3_32 wmt1_6 wmt3_33) rfl rfl rfl (by decide +kernel) ⟨Nat.le_of_ble_eq_true rfl, Nat.le_of_ble_eq_true rfl⟩) (zp_V (ci := 1) (q0 := (16 + 3 * d_1)) hK hP (hDa _) [16 + 3 * d_1, 17 + 3 * d_1, 18 + 3 * d_1] (zX_DC hd_1) (zX_ndD hd_1) rfl (zX_D0 hd_1)) rfl rfl hl.1 rfl (lv_room (Nat.le_of_ble_eq_true rfl)) dX6_mayBeAsked_15 ⟨Nat.le_of_ble_eq_true rfl, Nat.le_of_ble_eq_true rfl⟩) hP (hDa _) hS hA [16 + 3 * d_1, 17 + 3 * d_1, 18 + 3 * d_1] (zX_DC hd_1) (fun _ => rfl) (fun r_7 u_8 H locs w_9 hP _ hS => ?_)
    have hP : va_P (dC, dI) vwCl (zX k q z) H := (zX_Dkeep hd_1) ▸ hP
    refine lv_if_eq (tgt := 25) hx hb dX6_mayBeAsked_18 (by decide) (fun c_10 => ?_) (fun c_10 => ?_)
    · skip
      have hc_10 := zb_eq rfl (show (0 : Int32).toInt = 0 by decide) c_10
      refine lv_iconst (v := 0) hx hb dX6_mayBeAsked_25 (by decide) ?_
      refine lv_istore (lv' := [(4, .int 0), (3, .ref (qD q d_1 0)), (0, .ref (q 0)), (1, .int pe), (2, .int d)]) hx hb dX6_mayBeAsked_26 hl (by decide) rfl (fun ls hl => ?_)
      refine lv_iload hx hb dX6_mayBeAsked_28 (lv_at hl 0 rfl) ?_
      refine lv_if_eq (tgt := 54) hx hb dX6_mayBeAsked_30 (by decide) (fun c_11 => ?_) (fun c_11 => ?_)
      · skip
        refine lv_iconst (v := 0) hx hb dX6_mayBeAsked_54 (by decide) ?_
        exact W.zret (v := 0) (ty := .boolean) hx hb hr rfl (fun t ht hW => ⟨⟨0, z, rfl, ⟨hI, hT⟩, ⟨by rw [ht]; exact hP, hDa _⟩⟩, hS.F ht⟩) hS.2.2 dX6_mayBeAsked_55
      · skip
        exact absurd (by decide) c_11
    · skip
      have hc_10 := zb_ne rfl (show (0 : Int32).toInt = 0 by decide) c_10
      refine lv_iconst (v := 1) hx hb dX6_mayBeAsked_21 (by decide) ?_
      refine lv_goto (tgt := 26) hx hb dX6_mayBeAsked_22 (by decide) ?_
      refine lv_istore (lv' := [(4, .int 1), (3, .ref (qD q d_1 0)), (0, .ref (q 0)), (1, .int pe), (2, .int d)]) hx hb dX6_mayBeAsked_26 hl (by decide) rfl (fun ls hl => ?_)
      refine lv_iload hx hb dX6_mayBeAsked_28 (lv_at hl 0 rfl) ?_
      refine lv_if_eq (tgt := 54) hx hb dX6_mayBeAsked_30 (by decide) (fun c_12 => ?_) (fun c_12 => ?_)
      · skip
        exact absurd c_12 (by decide)
      · skip
        refine lv_aload_n hx hb dX6_mayBeAsked_33 rfl (lv_at hl 2 rfl) ?_
        refine lv_iload_n hx hb dX6_mayBeAsked_34 rfl (lv_at hl 3 rfl) ?_
        refine zcA_i (w := (zX k q z)) (va_runV (As := [.int pe]) (rest := []) ⟨hx, hb, hml, hown, htb⟩ (c_X6_multiplyGivenAway l dC dI k q z pe _ hI) (cwV 1 htb (gzV wmt2_237 wmt2_239 wmp1_15 wmt1_1 wmt3_0) rfl rfl rfl (by decide +kernel) ⟨Nat.le_of_ble_eq_true rfl, Nat.le_of_ble_eq_true rfl⟩) (zpA_V (ci := 6) (q0 := 0) hK hP (hDa _) rfl rfl) rfl rfl hl.1 rfl (lv_room (Nat.le_of_ble_eq_true rfl)) dX6_mayBeAsked_35 ⟨Nat.le_of_ble_eq_true rfl, Nat.le_of_ble_eq_true rfl⟩) (hDa _) hS hA (fun r_13 u_14 H locs w_15 hP _ hS => ?_)
        obtain ⟨h_16, h_17, h_18⟩ := w_15
        replace h_16 : XInv u_14 := h_16
        replace h_17 : trX u_14 = trX z := h_17
        replace h_18 : PK (u_14.1 5) (u_14.2.2.1 6) (u_14.2.2.1 7) (u_14.1 6) := h_18
        have hI := h_16
        have hT := h_17.trans hT
        refine lv_if_ne (tgt := 54) hx hb dX6_mayBeAsked_38 (by decide) (fun c_20 => ?_) (fun c_20 => ?_)
        · skip
          have hc_20 := zb_ne rfl (show (0 : Int32).toInt = 0 by decide) c_20
          refine lv_iconst (v := 0) hx hb dX6_mayBeAsked_54 (by decide) ?_
          exact W.zret (v := 0) (ty := .boolean) hx hb hr rfl (fun t ht hW => ⟨⟨0, u_14, rfl, ⟨hI, hT⟩, ⟨by rw [ht]; exact hP, hDa _⟩⟩, hS.F ht⟩) hS.2.2 dX6_mayBeAsked_55
        · skip
          have hc_20 := zb_eq rfl (show (0 : Int32).toInt = 0 by decide) c_20
          refine lv_aload_n hx hb dX6_mayBeAsked_41 rfl (lv_at hl 2 rfl) ?_
          refine va_get (D := (dC, dI)) (ci := 6) (v := .ref (q 4)) (C := RX6) (T := TX6) (N := 12) hx hb htb inw6 hown hK.1 hP 0 rfl rfl 3 (by decide) (htb _ wmt1_173) (fun _ h9 => h9) rfl dX6_mayBeAsked_42 ?_
          refine va_get (D := (dC, dI)) (ci := 0) (v := .ref (q 10)) (C := RX0) (T := TX0) (N := 9) hx hb htb inw0 hown hK.1 hP 4 rfl rfl 5 (by decide) (htb _ wmt1_41) (fun _ h9 => h9) rfl dX6_mayBeAsked_45 ?_
          refine lv_iload_n hx hb dX6_mayBeAsked_48 rfl (lv_at hl 4 rfl) ?_
          refine va_iald (D := (dC, dI)) hx hb hK.1 hP 10 0 rfl rfl (z_in (by omega)) dX6_mayBeAsked_49 ?_
          refine lv_topi (fun x_21 ex_21 => ?_)
          refine lv_iconst (v := 2) hx hb dX6_mayBeAsked_50 (by decide) ?_
          refine lv_icmp_lt (tgt := 56) hx hb dX6_mayBeAsked_51 (by decide) (fun c_22 => ?_) (fun c_22 => ?_)
          · skip
            have hc_22 := zb_lt rfl (show (2 : Int32).toInt = 2 by decide) c_22
            refine lv_aload_n hx hb dX6_mayBeAsked_56 rfl (lv_at hl 2 rfl) ?_
            refine va_get (D := (dC, dI)) (ci := 6) (v := .ref (q 15)) (C := RX6) (T := TX6) (N := 12) hx hb htb inw6 hown hK.1 hP 0 rfl rfl 6 (by decide) (htb _ wmt1_176) (fun _ h9 => h9) rfl dX6_mayBeAsked_57 ?_
            refine va_get (D := (dC, dI)) (ci := 2) (v := .long (u_14.2.1 0)) (C := RX2) (T := TX2) (N := 2) hx hb htb inw2 hown hK.1 hP 15 rfl rfl 0 (by decide) (htb _ wmt1_104) (fun _ h9 => h9) rfl dX6_mayBeAsked_60 ?_
            refine lv_topl (fun x_23 ex_23 => ?_)
            have hx_23 : x_23.toInt = (u_14.2.1 0).toInt := by rw [ex_23]
            refine lv_lstore (lv' := [(5, .long x_23), (4, .int 1), (3, .ref (qD q d_1 0)), (0, .ref (q 0)), (1, .int pe), (2, .int d)]) hx hb dX6_mayBeAsked_63 hl (by decide) rfl (fun ls hl => ?_)
            refine lv_aload_n hx hb dX6_mayBeAsked_65 rfl (lv_at hl 3 rfl) ?_
            refine va_get (D := (dC, dI)) (ci := 6) (v := .ref (q 15)) (C := RX6) (T := TX6) (N := 12) hx hb htb inw6 hown hK.1 hP 0 rfl rfl 6 (by decide) (htb _ wmt1_176) (fun _ h9 => h9) rfl dX6_mayBeAsked_66 ?_
            refine va_get (D := (dC, dI)) (ci := 2) (v := .long (u_14.2.1 1)) (C := RX2) (T := TX2) (N := 2) hx hb htb inw2 hown hK.1 hP 15 rfl rfl 1 (by decide) (htb _ wmt1_106) (fun _ h9 => h9) rfl dX6_mayBeAsked_69 ?_
            refine lv_topl (fun x_24 ex_24 => ?_)
            have hx_24 : x_24.toInt = (u_14.2.1 1).toInt := by rw [ex_24]
            refine lv_lstore (lv' := [(7, .long x_24), (5, .long x_23), (4, .int 1), (3, .ref (qD q d_1 0)), (0, .ref (q 0)), (1, .int pe), (2, .int d)]) hx hb dX6_mayBeAsked_72 hl (by decide) rfl (fun ls hl => ?_)
            refine lv_iconst (v := 1) hx hb dX6_mayBeAsked_74 (by decide) ?_
            refine lv_istore (lv' := [(9, .int 1), (7, .long x_24), (5, .long x_23), (4, .int 1), (3, .ref (qD q d_1 0)), (0, .ref (q 0)), (1, .int pe), (2, .int d)]) hx hb dX6_mayBeAsked_75 hl (by decide) rfl (fun ls hl => ?_)
            refine lv_iconst (v := 0) hx hb dX6_mayBeAsked_77 (by decide) ?_
            refine lv_istore (lv' := [(10, .int 0), (9, .int 1), (7, .long x_24), (5, .long x_23), (4, .int 1), (3, .ref (qD q d_1 0)), (0, .ref (q 0)), (1, .int pe), (2, .int d)]) hx hb dX6_mayBeAsked_78 hl (by decide) rfl (fun ls hl => ?_)
            obtain ⟨ok, eok⟩ : ∃ x : Int32, 1 = x := ⟨_, rfl⟩
            obtain ⟨i, ei⟩ : ∃ x : Int32, 0 = x := ⟨_, rfl⟩
            obtain ⟨z1, ez1⟩ : ∃ x : ZS, u_14 = x := ⟨_, rfl⟩
            have hv80 : (0 ≤ i.toInt ∧ i.toInt ≤ 2) ∧ (XInv z1) ∧ (trX z1 = trX z) ∧ (ok = 0 ∨ ok = 1) := by subst eok ei ez1; exact ⟨(by decide), hI, hT, (Or.inr rfl)⟩
            replace hl : lv_has ls 11 [(10, .int i), (9, .int ok), (7, .long x_24), (5, .long x_23), (4, .int 1), (3, .ref (qD q d_1 0)), (0, .ref (q 0)), (1, .int pe), (2, .int d)] := by subst eok ei ez1; exact hl
            replace hP : va_P (dC, dI) vwCl (zX k q z1) H := by subst ez1; exact hP
            clear eok ei ez1
            obtain ⟨mm80, hm80⟩ : ∃ mm : Nat, mm = (2 - i.toInt).toNat := ⟨_, rfl⟩
            refine z_cut2 hP hS hl ?_
            clear hl hP
            intro H locs ls hP hS hl
            induction mm80 using Nat.strongRecOn generalizing ok i z1 H locs ls with
            | _ mm80 ih80 =>
              obtain ⟨hi, hI1, hT1, hok⟩ := hv80
              have hI := hI1
              have hT := hT1
              refine lv_iload hx hb dX6_mayBeAsked_80 (lv_at hl 0 rfl) ?_
              refine lv_iconst (v := 1) hx hb dX6_mayBeAsked_82 (by decide) ?_
              refine lv_icmp_gt (tgt := 129) hx hb dX6_mayBeAsked_83 (by decide) (fun c_25 => ?_) (fun c_25 => ?_)
              · skip
                have hc_25 := zb_lt (show (1 : Int32).toInt = 1 by decide) rfl c_25
                refine lv_iload hx hb dX6_mayBeAsked_129 (lv_at hl 1 rfl) ?_
                exact W.zret (v := ok) (ty := .boolean) hx hb hr (z_nar hok) (fun t ht hW => ⟨⟨ok, z1, rfl, ⟨hI, hT⟩, ⟨by rw [ht]; exact hP, hDa _⟩⟩, hS.F ht⟩) hS.2.2 dX6_mayBeAsked_131
              · skip
                have hc_25 := zb_nlt (show (1 : Int32).toInt = 1 by decide) rfl c_25
                refine lv_aload_n hx hb dX6_mayBeAsked_86 rfl (lv_at hl 6 rfl) ?_
                refine va_get (D := (dC, dI)) (ci := 6) (v := .ref (q 15)) (C := RX6) (T := TX6) (N := 12) hx hb htb inw6 hown hK.1 hP 0 rfl rfl 6 (by decide) (htb _ wmt1_176) (fun _ h9 => h9) rfl dX6_mayBeAsked_87 ?_
                refine lv_lload hx hb dX6_mayBeAsked_90 (lv_at hl 3 rfl) ?_
                refine lv_lload hx hb dX6_mayBeAsked_92 (lv_at hl 2 rfl) ?_
                refine zcS_v (w := (zX k q z1)) (wc := (zF k (qof q 15) (xF z1))) (va_runV (As := [.long x_23, .long x_24]) (rest := []) ⟨hx, hb, hml, hown, htb⟩ (c_X2_become l dC dI k (qof q 15) (xF z1) x_23 x_24 _ ) (cwV 2 htb (gzV wmt2_56 wmt2_57 wmt2_58 wmt1_5 wmt2_59) rfl rfl rfl (by decide +kernel) ⟨Nat.le_of_ble_eq_true rfl, Nat.le_of_ble_eq_true rfl⟩) (zp_V (ci := 2) (q0 := 15) hK hP (hDa _) [15] rfl (by decide) rfl rfl) rfl rfl hl.1 rfl (lv_room (Nat.le_of_ble_eq_true rfl)) dX6_mayBeAsked_94 ⟨Nat.le_of_ble_eq_true rfl, Nat.le_of_ble_eq_true rfl⟩) hP (hDa _) hS hA [15] rfl (fun _ => rfl) (fun u_27 H locs w_28 hP _ hS => ?_)
                have hP : va_P (dC, dI) vwCl (zX k q (sJ (sJ z1 0 (u_27.2.1 0)) 1 (u_27.2.1 1))) H := hP
                refine lv_aload_n hx hb dX6_mayBeAsked_97 rfl (lv_at hl 6 rfl) ?_
                refine lv_aload_n hx hb dX6_mayBeAsked_98 rfl (lv_at hl 5 rfl) ?_
                refine lv_iload hx hb dX6_mayBeAsked_99 (lv_at hl 0 rfl) ?_
                refine zcA_v (w := (zX k q (sJ (sJ z1 0 (u_27.2.1 0)) 1 (u_27.2.1 1)))) (va_runV (As := [.ref (qD q d_1 0), .int i]) (rest := []) ⟨hx, hb, hml, hown, htb⟩ (c_X6_multiplyByAnswer l dC dI k q (sJ (sJ z1 0 (u_27.2.1 0)) 1 (u_27.2.1 1)) d_1 i _ hI hd_1) (cwV 2 htb (gzV wmt3_13 wmt3_15 wmp2_1 wmt1_1 wmt3_16) rfl rfl rfl (by decide +kernel) ⟨Nat.le_of_ble_eq_true rfl, Nat.le_of_ble_eq_true rfl⟩) (zpA_V (ci := 6) (q0 := 0) hK hP (hDa _) rfl rfl) rfl rfl hl.1 rfl (lv_room (Nat.le_of_ble_eq_true rfl)) dX6_mayBeAsked_101 ⟨Nat.le_of_ble_eq_true rfl, Nat.le_of_ble_eq_true rfl⟩) (hDa _) hS hA (fun u_30 H locs w_31 hP _ hS => ?_)
                obtain ⟨h_32, h_33, h_34, h_35⟩ := w_31
                replace h_32 : XInv u_30 := h_32
                replace h_33 : trX u_30 = trX (sJ (sJ z1 0 (u_27.2.1 0)) 1 (u_27.2.1 1)) := h_33
                replace h_34 : u_30.1 = (sJ (sJ z1 0 (u_27.2.1 0)) 1 (u_27.2.1 1)).1 := h_34
                replace h_35 : u_30.2.2 = (sJ (sJ z1 0 (u_27.2.1 0)) 1 (u_27.2.1 1)).2.2 := h_35
                have hI := h_32
                have hT := h_33.trans hT
                refine lv_iload hx hb dX6_mayBeAsked_104 (lv_at hl 1 rfl) ?_
                refine lv_if_eq (tgt := 120) hx hb dX6_mayBeAsked_106 (by decide) (fun c_37 => ?_) (fun c_37 => ?_)
                · skip
                  have hc_37 := zb_eq rfl (show (0 : Int32).toInt = 0 by decide) c_37
                  refine lv_iconst (v := 0) hx hb dX6_mayBeAsked_120 (by decide) ?_
                  refine lv_istore (lv' := [(9, .int 0), (10, .int i), (7, .long x_24), (5, .long x_23), (4, .int 1), (3, .ref (qD q d_1 0)), (0, .ref (q 0)), (1, .int pe), (2, .int d)]) hx hb dX6_mayBeAsked_121 hl (by decide) rfl (fun ls hl => ?_)
                  obtain ⟨x_38, ex_38⟩ : ∃ y : Int32, y = i + 1 := ⟨_, rfl⟩
                  have hx_38 : x_38.toInt = i.toInt + 1 := z_add ex_38 rfl (show (1 : Int32).toInt = 1 by decide) (by omega)
                  refine lv_iinc (v := x_38) (lv' := [(10, .int x_38), (9, .int 0), (7, .long x_24), (5, .long x_23), (4, .int 1), (3, .ref (qD q d_1 0)), (0, .ref (q 0)), (1, .int pe), (2, .int d)]) hx hb dX6_mayBeAsked_123 hl (k := 1) rfl (by rw [ex_38]; rfl) (by decide) rfl (fun ls hl => ?_)
                  refine lv_goto (tgt := 80) hx hb dX6_mayBeAsked_126 (by decide) ?_
                  exact ih80 ((2 - x_38.toInt).toNat) (by omega) 0 x_38 u_30 ⟨(show 0 ≤ x_38.toInt ∧ x_38.toInt ≤ 2 by omega), hI, hT, (Or.inl rfl)⟩ rfl H locs ls hP hS (lv_sub hl [0, 1, 2, 3, 4, 5, 6, 7, 8] rfl)
                · skip
                  have hc_37 := zb_ne rfl (show (0 : Int32).toInt = 0 by decide) c_37
                  refine lv_aload_n hx hb dX6_mayBeAsked_109 rfl (lv_at hl 6 rfl) ?_
                  refine zcA_i (w := (zX k q u_30)) (va_runV (As := []) (rest := []) ⟨hx, hb, hml, hown, htb⟩ (c_X6_isWithinLimit l dC dI k q u_30 _ hI) (cwV 0 htb (gzV wmt3_50 wmt3_52 wmp2_3 wmt1_1 wmt3_53) rfl rfl rfl (by decide +kernel) ⟨Nat.le_of_ble_eq_true rfl, Nat.le_of_ble_eq_true rfl⟩) (zpA_V (ci := 6) (q0 := 0) hK hP (hDa _) rfl rfl) rfl rfl hl.1 rfl (lv_room (Nat.le_of_ble_eq_true rfl)) dX6_mayBeAsked_110 ⟨Nat.le_of_ble_eq_true rfl, Nat.le_of_ble_eq_true rfl⟩) (hDa _) hS hA (fun r_39 u_40 H locs w_41 hP _ hS => ?_)
                  refine lv_if_eq (tgt := 120) hx hb dX6_mayBeAsked_113 (by decide) (fun c_42 => ?_) (fun c_42 => ?_)
                  · skip
                    have hc_42 := zb_eq rfl (show (0 : Int32).toInt = 0 by decide) c_42
                    refine lv_iconst (v := 0) hx hb dX6_mayBeAsked_120 (by decide) ?_
                    refine lv_istore (lv' := [(9, .int 0), (10, .int i), (7, .long x_24), (5, .long x_23), (4, .int 1), (3, .ref (qD q d_1 0)), (0, .ref (q 0)), (1, .int pe), (2, .int d)]) hx hb dX6_mayBeAsked_121 hl (by decide) rfl (fun ls hl => ?_)
                    obtain ⟨x_43, ex_43⟩ : ∃ y : Int32, y = i + 1 := ⟨_, rfl⟩
                    have hx_43 : x_43.toInt = i.toInt + 1 := z_add ex_43 rfl (show (1 : Int32).toInt = 1 by decide) (by omega)
                    refine lv_iinc (v := x_43) (lv' := [(10, .int x_43), (9, .int 0), (7, .long x_24), (5, .long x_23), (4, .int 1), (3, .ref (qD q d_1 0)), (0, .ref (q 0)), (1, .int pe), (2, .int d)]) hx hb dX6_mayBeAsked_123 hl (k := 1) rfl (by rw [ex_43]; rfl) (by decide) rfl (fun ls hl => ?_)
                    refine lv_goto (tgt := 80) hx hb dX6_mayBeAsked_126 (by decide) ?_
                    exact ih80 ((2 - x_43.toInt).toNat) (by omega) 0 x_43 u_30 ⟨(show 0 ≤ x_43.toInt ∧ x_43.toInt ≤ 2 by omega), hI, hT, (Or.inl rfl)⟩ rfl H locs ls hP hS (lv_sub hl [0, 1, 2, 3, 4, 5, 6, 7, 8] rfl)
                  · skip
                    have hc_42 := zb_ne rfl (show (0 : Int32).toInt = 0 by decide) c_42
                    refine lv_iconst (v := 1) hx hb dX6_mayBeAsked_116 (by decide) ?_
                    refine lv_goto (tgt := 121) hx hb dX6_mayBeAsked_117 (by decide) ?_
                    refine lv_istore (lv' := [(9, .int 1), (10, .int i), (7, .long x_24), (5, .long x_23), (4, .int 1), (3, .ref (qD q d_1 0)), (0, .ref (q 0)), (1, .int pe), (2, .int d)]) hx hb dX6_mayBeAsked_121 hl (by decide) rfl (fun ls hl => ?_)
                    obtain ⟨x_44, ex_44⟩ : ∃ y : Int32, y = i + 1 := ⟨_, rfl⟩
                    have hx_44 : x_44.toInt = i.toInt + 1 := z_add ex_44 rfl (show (1 : Int32).toInt = 1 by decide) (by omega)
                    refine lv_iinc (v := x_44) (lv' := [(10, .int x_44), (9, .int 1), (7, .long x_24), (5, .long x_23), (4, .int 1), (3, .ref (qD q d_1 0)), (0, .ref (q 0)), (1, .int pe), (2, .int d)]) hx hb dX6_mayBeAsked_123 hl (k := 1) rfl (by rw [ex_44]; rfl) (by decide) rfl (fun ls hl => ?_)
                    refine lv_goto (tgt := 80) hx hb dX6_mayBeAsked_126 (by decide) ?_
                    exact ih80 ((2 - x_44.toInt).toNat) (by omega) 1 x_44 u_30 ⟨(show 0 ≤ x_44.toInt ∧ x_44.toInt ≤ 2 by omega), hI, hT, (Or.inr rfl)⟩ rfl H locs ls hP hS (lv_sub hl [0, 1, 2, 3, 4, 5, 6, 7, 8] rfl)
          · skip
            have hc_22 := zb_nlt rfl (show (2 : Int32).toInt = 2 by decide) c_22
            refine lv_iconst (v := 0) hx hb dX6_mayBeAsked_54 (by decide) ?_
            exact W.zret (v := 0) (ty := .boolean) hx hb hr rfl (fun t ht hW => ⟨⟨0, u_14, rfl, ⟨hI, hT⟩, ⟨by rw [ht]; exact hP, hDa _⟩⟩, hS.F ht⟩) hS.2.2 dX6_mayBeAsked_55
set_option maxHeartbeats 4000000 in
set_option maxRecDepth 100000 in
theorem c_X6_may (l : Launch) (dC : Nat → ClassId) (dI : Nat → Nat → Nat) (k : Nat → ClassId) (q : Nat → Nat) (z : ZS) (pe : Int32) (d : Int32) (sz : Nat) (hI : XInv z) : Met l yX6_may (wz yX6_may cX6_may 3 (some .int)) ({ frames := 6, cells := 0, slots := 0, locals := 145 }) (va_Pc [.ref (q 0), .int pe, .int d] (zPre dC dI k (zTX k) (zX k q z) sz)) (va_Qi (fun (r : Int32) (u : ZS) => (XInv u) ∧ (trX u = trX z)) (fun u t => zPost dC dI (va_A (zX k q z) sz) (zX k q u) t) (va_A (zX k q z) sz)) 0 0 (va_A (zX k q z) sz) := by
  refine Met.ofW (cc := cX6_may) (maxL := 3) (ret := (some .int)) (by decide) rfl ?_
  intro p e s m args below meth c s₁ B hml hv
  obtain ⟨rfl, hsz, hP, hK, hD0⟩ := hv
  have hx := B.exec
  have hb := B.bytes
  have hr := B.returns
  have hts := atoms_spec (ws := wz yX6_may cX6_may 3 (some .int)) B.pre
  have htb : ∀ w ∈ zw, w.before _ s = true := fun w h => hts w (List.mem_cons_of_mem _ h)
  have hown : s.vm.findClass RX6 = some m.cls := findClass_of_methodNamed B.named
  have hlocks := B.notSynchronized
  clear hts
  subst hsz
  have hD := hD0.self (sz := s.heap.size)
  generalize hAe : va_A (zX k q z) s.heap.size = A at hD ⊢
  have hA : ∀ q : Nat, s.heap.size ≤ q → A q := fun q h => by rw [← hAe]; exact Or.inr h
  have hDa : ∀ z9 : ZS, va_D A (zX k q z9) := fun z9 => va_D_adr (w := zX k q z) rfl hD
  have hl := lv_entry ([.ref (q 0), .int pe, .int d]) (n := 3) (Nat.le_of_ble_eq_true rfl)
  rw [lg_entry_eq]
  generalize (lg_sl ([.ref (q 0), .int pe, .int d]) ++ List.replicate (3 - (lg_sl ([.ref (q 0), .int pe, .int d])).length) Slot.unset).toArray = ls at hl ⊢
  have hl : lv_has ls 3 [(0, .ref (q 0)), (1, .int pe), (2, .int d)] := hl
  refine z_start2 (A := A) (w := (zX k q z)) hP (fun H locs hP hS => ?_)
  clear hD0 hAe
  have hT : trX z = trX z := rfl
  refine lv_iload_n hx hb dX6_may_0 rfl (lv_at hl 1 rfl) ?_
  refine zc0_i (w := (zX k q z)) (va_runS (As := [.int pe]) (rest := []) ⟨hx, hb, hml, hown, htb⟩ (c_X6_isPerson l dC dI k pe _ ) (va_cwS 1 htb (gzS wmt2_77 wmt2_78 wmt1_1 wmt2_79) rfl rfl rfl (by decide +kernel) ⟨Nat.le_of_ble_eq_true rfl, Nat.le_of_ble_eq_true rfl⟩) (zp0_S hK) rfl rfl hl.1 rfl (lv_room (Nat.le_of_ble_eq_true rfl)) dX6_may_1 ⟨Nat.le_of_ble_eq_true rfl, Nat.le_of_ble_eq_true rfl⟩) hP hS hA (fun r_1 u_2 H locs w_3 hP hS => ?_)
  rcases w_3 with ⟨e_5, h_4⟩ | ⟨e_7, h_6⟩
  · skip
    replace e_5 : r_1 = 1 := e_5
    subst e_5
    replace h_4 : 0 ≤ pe.toInt ∧ pe.toInt < 24 := h_4
    refine lv_if_eq (tgt := 14) hx hb dX6_may_4 (by decide) (fun c_8 => ?_) (fun c_8 => ?_)
    · skip
      exact absurd c_8 (by decide)
    · skip
      refine lv_iload_n hx hb dX6_may_7 rfl (lv_at hl 2 rfl) ?_
      refine zc0_i (w := (zX k q z)) (va_runS (As := [.int d]) (rest := []) ⟨hx, hb, hml, hown, htb⟩ (c_X6_isDesign l dC dI k d _ ) (va_cwS 1 htb (gzS wmt1_211 wmt1_212 wmt1_1 wmt1_213) rfl rfl rfl (by decide +kernel) ⟨Nat.le_of_ble_eq_true rfl, Nat.le_of_ble_eq_true rfl⟩) (zp0_S hK) rfl rfl hl.1 rfl (lv_room (Nat.le_of_ble_eq_true rfl)) dX6_may_8 ⟨Nat.le_of_ble_eq_true rfl, Nat.le_of_ble_eq_true rfl⟩) hP hS hA (fun r_9 u_10 H locs w_11 hP hS => ?_)
      rcases w_11 with ⟨e_13, h_12⟩ | ⟨e_15, h_14⟩
      · skip
        replace e_13 : r_9 = 1 := e_13
        subst e_13
        replace h_12 : 0 ≤ d.toInt ∧ d.toInt < 4 := h_12
        refine lv_if_ne (tgt := 17) hx hb dX6_may_11 (by decide) (fun c_16 => ?_) (fun c_16 => ?_)
        · skip
          refine lv_aload_n hx hb dX6_may_17 rfl (lv_at hl 0 rfl) ?_
          refine va_get (D := (dC, dI)) (ci := 6) (v := .ref (q 1)) (C := RX6) (T := TX6) (N := 12) hx hb htb inw6 hown hK.1 hP 0 rfl rfl 0 (by decide) (htb _ wmt1_170) (fun _ h9 => h9) rfl dX6_may_18 ?_
          refine lv_iload_n hx hb dX6_may_21 rfl (lv_at hl 2 rfl) ?_
          refine va_aldq (D := (dC, dI)) hx hb hK.1 hP 1 3 rfl rfl (z_in (by omega)) dX6_may_22 ?_
          obtain ⟨d_17, ed_17⟩ : ∃ x : Nat, x = d.toNatClampNeg := ⟨_, rfl⟩
          have hd_17 : d_17 < 4 := by rw [ed_17]; exact z_cl4 (by omega)
          refine z_top (v2 := .ref (qD q d_17 0)) (zgD_at2 ed_17 hd_17) ?_
          refine zcS_i (w := (zX k q z)) (wc := (zD k (qD q d_17) (xD z d_17))) (va_runV (As := []) (rest := []) ⟨hx, hb, hml, hown, htb⟩ (c_X1_isFaulty l dC dI k (qD q d_17) (xD z d_17) _ ) (cwV 0 htb (gzV wmt2_55 wmt2_20 wmt2_21 wmt1_6 wmt2_22) rfl rfl rfl (by decide +kernel) ⟨Nat.le_of_ble_eq_true rfl, Nat.le_of_ble_eq_true rfl⟩) (zp_V (ci := 1) (q0 := (16 + 3 * d_17)) hK hP (hDa _) [16 + 3 * d_17, 17 + 3 * d_17, 18 + 3 * d_17] (zX_DC hd_17) (zX_ndD hd_17) rfl (zX_D0 hd_17)) rfl rfl hl.1 rfl (lv_room (Nat.le_of_ble_eq_true rfl)) dX6_may_23 ⟨Nat.le_of_ble_eq_true rfl, Nat.le_of_ble_eq_true rfl⟩) hP (hDa _) hS hA [16 + 3 * d_17, 17 + 3 * d_17, 18 + 3 * d_17] (zX_DC hd_17) (fun _ => rfl) (fun r_18 u_19 H locs w_20 hP _ hS => ?_)
          have hP : va_P (dC, dI) vwCl (zX k q z) H := (zX_Dkeep hd_17) ▸ hP
          rcases w_20 with ⟨e_22, h_21⟩ | ⟨e_24, h_23⟩
          · skip
            replace e_22 : r_18 = 1 := e_22
            subst e_22
            replace h_21 : ¬ ((xD z d_17).1 2).toInt = -1 := h_21
            refine lv_if_eq (tgt := 32) hx hb dX6_may_26 (by decide) (fun c_25 => ?_) (fun c_25 => ?_)
            · skip
              exact absurd c_25 (by decide)
            · skip
              refine lv_bipush (v := (-3)) hx hb dX6_may_29 (by decide) ?_
              exact W.iret (v := (-3)) hx hb hr (fun t ht hW => ⟨⟨(-3), z, rfl, ⟨hI, hT⟩, ⟨by rw [ht]; exact hP, hDa _⟩⟩, hS.F ht⟩) hS.2.2 dX6_may_31
          · skip
            replace e_24 : r_18 = 0 := e_24
            subst e_24
            replace h_23 : ((xD z d_17).1 2).toInt = -1 := h_23
            refine lv_if_eq (tgt := 32) hx hb dX6_may_26 (by decide) (fun c_26 => ?_) (fun c_26 => ?_)
            · skip
              refine lv_aload_n hx hb dX6_may_32 rfl (lv_at hl 0 rfl) ?_
              refine lv_iload_n hx hb dX6_may_33 rfl (lv_at hl 1 rfl) ?_
              refine lv_iload_n hx hb dX6_may_34 rfl (lv_at hl 2 rfl) ?_
              refine zcA_i (w := (zX k q z)) (va_runV (As := [.int pe, .int d]) (rest := []) ⟨hx, hb, hml, hown, htb⟩ (c_X6_mayBeAsked l dC dI k q z pe d _ hI (show 0 ≤ d.toInt ∧ d.toInt < 4 by omega)) (cwV 2 htb (gzV wmt3_46 wmt3_48 wmp2_2 wmt1_1 wmt3_49) rfl rfl rfl (by decide +kernel) ⟨Nat.le_of_ble_eq_true rfl, Nat.le_of_ble_eq_true rfl⟩) (zpA_V (ci := 6) (q0 := 0) hK hP (hDa _) rfl rfl) rfl rfl hl.1 rfl (lv_room (Nat.le_of_ble_eq_true rfl)) dX6_may_35 ⟨Nat.le_of_ble_eq_true rfl, Nat.le_of_ble_eq_true rfl⟩) (hDa _) hS hA (fun r_27 u_28 H locs w_29 hP _ hS => ?_)
              obtain ⟨h_30, h_31⟩ := w_29
              replace h_30 : XInv u_28 := h_30
              replace h_31 : trX u_28 = trX z := h_31
              have hI := h_30
              have hT := h_31.trans hT
              refine lv_if_eq (tgt := 45) hx hb dX6_may_38 (by decide) (fun c_33 => ?_) (fun c_33 => ?_)
              · skip
                have hc_33 := zb_eq rfl (show (0 : Int32).toInt = 0 by decide) c_33
                refine lv_iconst (v := 0) hx hb dX6_may_45 (by decide) ?_
                exact W.iret (v := 0) hx hb hr (fun t ht hW => ⟨⟨0, u_28, rfl, ⟨hI, hT⟩, ⟨by rw [ht]; exact hP, hDa _⟩⟩, hS.F ht⟩) hS.2.2 dX6_may_46
              · skip
                have hc_33 := zb_ne rfl (show (0 : Int32).toInt = 0 by decide) c_33
                refine lv_iconst (v := 1) hx hb dX6_may_41 (by decide) ?_
                refine lv_goto (tgt := 46) hx hb dX6_may_42 (by decide) ?_
                exact W.iret (v := 1) hx hb hr (fun t ht hW => ⟨⟨1, u_28, rfl, ⟨hI, hT⟩, ⟨by rw [ht]; exact hP, hDa _⟩⟩, hS.F ht⟩) hS.2.2 dX6_may_46
            · skip
              exact absurd (by decide) c_26
        · skip
          exact absurd c_16 (by decide)
      · skip
        replace e_15 : r_9 = 0 := e_15
        subst e_15
        replace h_14 : ¬ (0 ≤ d.toInt ∧ d.toInt < 4) := h_14
        refine lv_if_ne (tgt := 17) hx hb dX6_may_11 (by decide) (fun c_34 => ?_) (fun c_34 => ?_)
        · skip
          exact absurd c_34 (by decide)
        · skip
          refine lv_bipush (v := (-2)) hx hb dX6_may_14 (by decide) ?_
          exact W.iret (v := (-2)) hx hb hr (fun t ht hW => ⟨⟨(-2), z, rfl, ⟨hI, hT⟩, ⟨by rw [ht]; exact hP, hDa _⟩⟩, hS.F ht⟩) hS.2.2 dX6_may_16
  · skip
    replace e_7 : r_1 = 0 := e_7
    subst e_7
    replace h_6 : ¬ (0 ≤ pe.toInt ∧ pe.toInt < 24) := h_6
    refine lv_if_eq (tgt := 14) hx hb dX6_may_4 (by decide) (fun c_35 => ?_) (fun c_35 => ?_)
    · skip
      refine lv_bipush (v := (-2)) hx hb dX6_may_14 (by decide) ?_
      exact W.iret (v := (-2)) hx hb hr (fun t ht hW => ⟨⟨(-2), z, rfl, ⟨hI, hT⟩, ⟨by rw [ht]; exact hP, hDa _⟩⟩, hS.F ht⟩) hS.2.2 dX6_may_16
    · skip
      exact absurd (by decide) c_35
