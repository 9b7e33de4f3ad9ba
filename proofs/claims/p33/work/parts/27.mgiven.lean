set_option maxHeartbeats 4000000 in
set_option maxRecDepth 100000 in
theorem c_X7_gives (l : Launch) (dC : Nat → ClassId) (dI : Nat → Nat → Nat) (k : Nat → ClassId) (q : Nat → Nat) (z : ZS) (d : Int32) (y : Int32) (sz : Nat) (hI : MInv z) (hd : 0 ≤ d.toInt ∧ d.toInt < 4) (hms : MS (FR (z.2.2.1 2) (z.2.2.1 3) d.toNatClampNeg) (z.2.2.1 4 d.toNatClampNeg) (z.2.2.1 5 d.toNatClampNeg) (z.2.2.1 6 d.toNatClampNeg) (z.2.2.1 7 d.toNatClampNeg) (z.2.2.1 8 d.toNatClampNeg) (z.2.2.1 9 d.toNatClampNeg) (z.2.2.1 10 d.toNatClampNeg)) : Met l yX7_gives (wz yX7_gives cX7_gives 7 (some .boolean)) ({ frames := 2, cells := 0, slots := 0, locals := 55 }) (va_Pc [.ref (q 0), .int d, .int y] (zPre dC dI k (zTX k) (zM k q z) sz)) (va_Qi (fun (r : Int32) (u : Int64 × Int64) => (r = 1 ∧ (1 ≤ u.2.toInt ∧ u.2.toInt ≤ 731520) ∧ (-731520 ≤ u.1.toInt ∧ u.1.toInt ≤ 731520) ∧ ((z.2.2.1 7 d.toNatClampNeg).toInt + (z.2.2.1 8 d.toNatClampNeg).toInt + (z.2.2.1 9 d.toNatClampNeg).toInt + (z.2.2.1 10 d.toNatClampNeg).toInt ≤ (z.2.2.1 6 d.toNatClampNeg).toInt → 0 ≤ u.1.toInt ∧ u.1.toInt ≤ 11520 ∧ u.2.toInt ≤ 11520) ∧ (0 < (if y.toInt = 1 then yI (z.2.2.1 7 d.toNatClampNeg) (z.2.2.1 8 d.toNatClampNeg) (z.2.2.1 9 d.toNatClampNeg) (z.2.2.1 10 d.toNatClampNeg) (z.1 11) 1 else 24 * (z.2.2.1 6 d.toNatClampNeg).toInt - yI (z.2.2.1 7 d.toNatClampNeg) (z.2.2.1 8 d.toNatClampNeg) (z.2.2.1 9 d.toNatClampNeg) (z.2.2.1 10 d.toNatClampNeg) (z.1 11) 1) → 0 < (if y.toInt = 1 then yI (z.2.2.1 7 d.toNatClampNeg) (z.2.2.1 8 d.toNatClampNeg) (z.2.2.1 9 d.toNatClampNeg) (z.2.2.1 10 d.toNatClampNeg) (z.1 11) 0 else 24 * (z.2.2.1 6 d.toNatClampNeg).toInt - yI (z.2.2.1 7 d.toNatClampNeg) (z.2.2.1 8 d.toNatClampNeg) (z.2.2.1 9 d.toNatClampNeg) (z.2.2.1 10 d.toNatClampNeg) (z.1 11) 0) → 1 ≤ u.1.toInt)) ∨ (r = 0 ∧ (u.1 = z.2.1 0) ∧ (u.2 = z.2.1 1) ∧ ((if y.toInt = 1 then yI (z.2.2.1 7 d.toNatClampNeg) (z.2.2.1 8 d.toNatClampNeg) (z.2.2.1 9 d.toNatClampNeg) (z.2.2.1 10 d.toNatClampNeg) (z.1 11) 0 else 24 * (z.2.2.1 6 d.toNatClampNeg).toInt - yI (z.2.2.1 7 d.toNatClampNeg) (z.2.2.1 8 d.toNatClampNeg) (z.2.2.1 9 d.toNatClampNeg) (z.2.2.1 10 d.toNatClampNeg) (z.1 11) 0) = 0))) (fun u t => zPost dC dI (va_A (zM k q z) sz) (zM k q (sJ (sJ z 0 u.1) 1 u.2)) t) (va_A (zM k q z) sz)) 0 0 (va_A (zM k q z) sz) := by
  refine Met.ofW (cc := cX7_gives) (maxL := 7) (ret := (some .boolean)) (by decide) rfl ?_
  intro p e s m args below meth c s₁ B hml hv
  obtain ⟨rfl, hsz, hP, hK, hD0⟩ := hv
  have hx := B.exec
  have hb := B.bytes
  have hr := B.returns
  have hts := atoms_spec (ws := wz yX7_gives cX7_gives 7 (some .boolean)) B.pre
  have htb : ∀ w ∈ zw, w.before _ s = true := fun w h => hts w (List.mem_cons_of_mem _ h)
  have hown : s.vm.findClass RX7 = some m.cls := findClass_of_methodNamed B.named
  have hlocks := B.notSynchronized
  clear hts
  subst hsz
  have hD := hD0.self (sz := s.heap.size)
  generalize hAe : va_A (zM k q z) s.heap.size = A at hD ⊢
  have hA : ∀ q : Nat, s.heap.size ≤ q → A q := fun q h => by rw [← hAe]; exact Or.inr h
  have hDa : ∀ z9 : ZS, va_D A (zM k q z9) := fun z9 => va_D_adr (w := zM k q z) rfl hD
  have hl := lv_entry ([.ref (q 0), .int d, .int y]) (n := 7) (Nat.le_of_ble_eq_true rfl)
  rw [lg_entry_eq]
  generalize (lg_sl ([.ref (q 0), .int d, .int y]) ++ List.replicate (7 - (lg_sl ([.ref (q 0), .int d, .int y])).length) Slot.unset).toArray = ls at hl ⊢
  have hl : lv_has ls 7 [(0, .ref (q 0)), (1, .int d), (2, .int y)] := hl
  refine z_start2 (A := A) (w := (zM k q z)) hP (fun H locs hP hS => ?_)
  clear hD0 hAe
  have hwb := hms.1
  refine lv_iload_n hx hb dX7_gives_0 rfl (lv_at hl 2 rfl) ?_
  refine lv_iconst (v := 1) hx hb dX7_gives_1 (by decide) ?_
  refine lv_icmp_ne (tgt := 14) hx hb dX7_gives_2 (by decide) (fun c_1 => ?_) (fun c_1 => ?_)
  · skip
    have hc_1 := zb_ne rfl (show (1 : Int32).toInt = 1 by decide) c_1
    refine lv_aload_n hx hb dX7_gives_14 rfl (lv_at hl 0 rfl) ?_
    refine lv_iload_n hx hb dX7_gives_15 rfl (lv_at hl 1 rfl) ?_
    refine zcA_l (w := (zM k q z)) (va_runV (As := [.int d]) (rest := []) ⟨hx, hb, hml, hown, htb⟩ (c_X7_base l dC dI k q z d _ (by omega) hms) (cwV 1 htb (gzV wmt4_125 wmt4_127 wmp2_15 wmt1_8 wmt4_128) rfl rfl rfl (by decide +kernel) ⟨Nat.le_of_ble_eq_true rfl, Nat.le_of_ble_eq_true rfl⟩) (zpA_V (ci := 7) (q0 := 0) hK hP (hDa _) rfl rfl) rfl rfl hl.1 rfl (lv_room (Nat.le_of_ble_eq_true rfl)) dX7_gives_16 ⟨Nat.le_of_ble_eq_true rfl, Nat.le_of_ble_eq_true rfl⟩) (hDa _) hS hA (fun r_2 u_3 H locs w_4 hP _ hS => ?_)
    have h_5 := w_4
    replace h_5 : r_2.toInt = 24 * ((z.2.2.1 6) d.toNatClampNeg).toInt := h_5
    refine lv_aload_n hx hb dX7_gives_19 rfl (lv_at hl 0 rfl) ?_
    refine lv_iload_n hx hb dX7_gives_20 rfl (lv_at hl 1 rfl) ?_
    refine lv_iconst (v := 1) hx hb dX7_gives_21 (by decide) ?_
    refine zcA_l (w := (zM k q z)) (va_runV (As := [.int d, .int 1]) (rest := [.long r_2]) ⟨hx, hb, hml, hown, htb⟩ (c_X7_yesIf l dC dI k q z d 1 _ hI (by omega) hms) (cwV 2 htb (gzV wmt4_120 wmt4_122 wmp2_14 wmt1_8 wmt4_123) rfl rfl rfl (by decide +kernel) ⟨Nat.le_of_ble_eq_true rfl, Nat.le_of_ble_eq_true rfl⟩) (zpA_V (ci := 7) (q0 := 0) hK hP (hDa _) rfl rfl) rfl rfl hl.1 rfl (lv_room (Nat.le_of_ble_eq_true rfl)) dX7_gives_22 ⟨Nat.le_of_ble_eq_true rfl, Nat.le_of_ble_eq_true rfl⟩) (hDa _) hS hA (fun r_7 u_8 H locs w_9 hP _ hS => ?_)
    obtain ⟨h_10, h_11, h_12⟩ := w_9
    replace h_10 : 0 ≤ r_7.toInt ∧ r_7.toInt ≤ 720000 := h_10
    replace h_11 : (((z.2.2.1 7) d.toNatClampNeg).toInt + ((z.2.2.1 8) d.toNatClampNeg).toInt + ((z.2.2.1 9) d.toNatClampNeg).toInt + ((z.2.2.1 10) d.toNatClampNeg).toInt ≤ ((z.2.2.1 6) d.toNatClampNeg).toInt → r_7.toInt ≤ 24 * ((z.2.2.1 6) d.toNatClampNeg).toInt) := h_11
    replace h_12 : r_7.toInt = yI ((z.2.2.1 7) d.toNatClampNeg) ((z.2.2.1 8) d.toNatClampNeg) ((z.2.2.1 9) d.toNatClampNeg) ((z.2.2.1 10) d.toNatClampNeg) ((z.1 11)) (1 : Int32) := h_12
    have hy1 := h_11
    refine lv_lsub hx hb dX7_gives_25 ?_
    refine lv_topl (fun x_14 ex_14 => ?_)
    have hx_14 := zl_sub ex_14 rfl rfl (by omega)
    refine lv_lstore_n (lv' := [(3, .long x_14), (0, .ref (q 0)), (1, .int d), (2, .int y)]) hx hb dX7_gives_26 rfl hl (by decide) rfl (fun ls hl => ?_)
    refine lv_iload_n hx hb dX7_gives_27 rfl (lv_at hl 3 rfl) ?_
    refine lv_iconst (v := 1) hx hb dX7_gives_28 (by decide) ?_
    refine lv_icmp_ne (tgt := 41) hx hb dX7_gives_29 (by decide) (fun c_15 => ?_) (fun c_15 => ?_)
    · skip
      have hc_15 := zb_ne rfl (show (1 : Int32).toInt = 1 by decide) c_15
      refine lv_aload_n hx hb dX7_gives_41 rfl (lv_at hl 1 rfl) ?_
      refine lv_iload_n hx hb dX7_gives_42 rfl (lv_at hl 2 rfl) ?_
      refine zcA_l (w := (zM k q z)) (va_runV (As := [.int d]) (rest := []) ⟨hx, hb, hml, hown, htb⟩ (c_X7_base l dC dI k q z d _ (by omega) hms) (cwV 1 htb (gzV wmt4_125 wmt4_127 wmp2_15 wmt1_8 wmt4_128) rfl rfl rfl (by decide +kernel) ⟨Nat.le_of_ble_eq_true rfl, Nat.le_of_ble_eq_true rfl⟩) (zpA_V (ci := 7) (q0 := 0) hK hP (hDa _) rfl rfl) rfl rfl hl.1 rfl (lv_room (Nat.le_of_ble_eq_true rfl)) dX7_gives_43 ⟨Nat.le_of_ble_eq_true rfl, Nat.le_of_ble_eq_true rfl⟩) (hDa _) hS hA (fun r_16 u_17 H locs w_18 hP _ hS => ?_)
      have h_19 := w_18
      replace h_19 : r_16.toInt = 24 * ((z.2.2.1 6) d.toNatClampNeg).toInt := h_19
      refine lv_aload_n hx hb dX7_gives_46 rfl (lv_at hl 1 rfl) ?_
      refine lv_iload_n hx hb dX7_gives_47 rfl (lv_at hl 2 rfl) ?_
      refine lv_iconst (v := 0) hx hb dX7_gives_48 (by decide) ?_
      refine zcA_l (w := (zM k q z)) (va_runV (As := [.int d, .int 0]) (rest := [.long r_16]) ⟨hx, hb, hml, hown, htb⟩ (c_X7_yesIf l dC dI k q z d 0 _ hI (by omega) hms) (cwV 2 htb (gzV wmt4_120 wmt4_122 wmp2_14 wmt1_8 wmt4_123) rfl rfl rfl (by decide +kernel) ⟨Nat.le_of_ble_eq_true rfl, Nat.le_of_ble_eq_true rfl⟩) (zpA_V (ci := 7) (q0 := 0) hK hP (hDa _) rfl rfl) rfl rfl hl.1 rfl (lv_room (Nat.le_of_ble_eq_true rfl)) dX7_gives_49 ⟨Nat.le_of_ble_eq_true rfl, Nat.le_of_ble_eq_true rfl⟩) (hDa _) hS hA (fun r_21 u_22 H locs w_23 hP _ hS => ?_)
      obtain ⟨h_24, h_25, h_26⟩ := w_23
      replace h_24 : 0 ≤ r_21.toInt ∧ r_21.toInt ≤ 720000 := h_24
      replace h_25 : (((z.2.2.1 7) d.toNatClampNeg).toInt + ((z.2.2.1 8) d.toNatClampNeg).toInt + ((z.2.2.1 9) d.toNatClampNeg).toInt + ((z.2.2.1 10) d.toNatClampNeg).toInt ≤ ((z.2.2.1 6) d.toNatClampNeg).toInt → r_21.toInt ≤ 24 * ((z.2.2.1 6) d.toNatClampNeg).toInt) := h_25
      replace h_26 : r_21.toInt = yI ((z.2.2.1 7) d.toNatClampNeg) ((z.2.2.1 8) d.toNatClampNeg) ((z.2.2.1 9) d.toNatClampNeg) ((z.2.2.1 10) d.toNatClampNeg) ((z.1 11)) (0 : Int32) := h_26
      have hy0 := h_25
      refine lv_lsub hx hb dX7_gives_52 ?_
      refine lv_topl (fun x_28 ex_28 => ?_)
      have hx_28 := zl_sub ex_28 rfl rfl (by omega)
      refine lv_lstore (lv' := [(5, .long x_28), (3, .long x_14), (0, .ref (q 0)), (1, .int d), (2, .int y)]) hx hb dX7_gives_53 hl (by decide) rfl (fun ls hl => ?_)
      refine lv_lload hx hb dX7_gives_55 (lv_at hl 0 rfl) ?_
      refine lv_lconst (v := 0) hx hb dX7_gives_57 (by decide) ?_
      refine z_lcmp hx hb dX7_gives_58 ?_
      refine lv_if_ne (tgt := 64) hx hb dX7_gives_59 (by decide) (fun c_29 => ?_) (fun c_29 => ?_)
      · skip
        have hc_29 := zl_ne rfl (show (0 : Int64).toInt = 0 by decide) c_29
        refine lv_aload_n hx hb dX7_gives_64 rfl (lv_at hl 2 rfl) ?_
        refine lv_lload_n hx hb dX7_gives_65 rfl (lv_at hl 1 rfl) ?_
        refine lv_lload hx hb dX7_gives_66 (lv_at hl 0 rfl) ?_
        refine zcA_v (w := (zM k q z)) (va_runV (As := [.long x_14, .long x_28]) (rest := []) ⟨hx, hb, hml, hown, htb⟩ (c_X7_is l dC dI k q z x_14 x_28 _ (show (-4611686018427387904 < x_14.toInt ∧ x_14.toInt < 4611686018427387904) by omega) (show (-4611686018427387904 < x_28.toInt ∧ x_28.toInt < 4611686018427387904) by omega) (show x_28.toInt ≠ 0 by omega)) (cwV 2 htb (gzV wmt4_129 wmt4_131 wmp3_0 wmt1_8 wmt4_132) rfl rfl rfl (by decide +kernel) ⟨Nat.le_of_ble_eq_true rfl, Nat.le_of_ble_eq_true rfl⟩) (zpA_V (ci := 7) (q0 := 0) hK hP (hDa _) rfl rfl) rfl rfl hl.1 rfl (lv_room (Nat.le_of_ble_eq_true rfl)) dX7_gives_68 ⟨Nat.le_of_ble_eq_true rfl, Nat.le_of_ble_eq_true rfl⟩) (hDa _) hS hA (fun u_31 H locs w_32 hP _ hS => ?_)
        obtain ⟨oa_33, ob_34⟩ := u_31
        have hP : va_P (dC, dI) vwCl (zM k q (sJ (sJ z 0 oa_33) 1 ob_34)) H := hP
        obtain ⟨h_35, h_36, h_37, h_38, h_39⟩ := w_32
        replace h_35 : 1 ≤ ob_34.toInt ∧ ob_34.toInt ≤ (x_28.toInt.natAbs : Int) := h_35
        replace h_36 : (oa_33.toInt.natAbs : Int) ≤ (x_14.toInt.natAbs : Int) := h_36
        replace h_37 : (0 ≤ x_14.toInt → 0 < x_28.toInt → 0 ≤ oa_33.toInt) ∧ (0 < x_14.toInt → 0 < x_28.toInt → 1 ≤ oa_33.toInt) := h_37
        replace h_38 : ob_34.toInt = ((x_28.toInt.natAbs / Nat.gcd x_14.toInt.natAbs x_28.toInt.natAbs : Nat) : Int) := h_38
        replace h_39 : oa_33.toInt = x_14.toInt.tdiv (if x_28.toInt < 0 then -(Nat.gcd x_14.toInt.natAbs x_28.toInt.natAbs : Int) else (Nat.gcd x_14.toInt.natAbs x_28.toInt.natAbs : Int)) := h_39
        have his0 := h_35
        have his1 := h_36
        have his2 := h_37
        have his3 := h_38
        have his4 := h_39
        refine lv_iconst (v := 1) hx hb dX7_gives_71 (by decide) ?_
        exact W.zret (v := 1) (ty := .boolean) hx hb hr rfl (fun t ht hW => ⟨⟨1, (oa_33, ob_34), rfl, (show ((1 : Int32) = 1 ∧ (1 ≤ ob_34.toInt ∧ ob_34.toInt ≤ 731520) ∧ (-731520 ≤ oa_33.toInt ∧ oa_33.toInt ≤ 731520) ∧ ((z.2.2.1 7 d.toNatClampNeg).toInt + (z.2.2.1 8 d.toNatClampNeg).toInt + (z.2.2.1 9 d.toNatClampNeg).toInt + (z.2.2.1 10 d.toNatClampNeg).toInt ≤ (z.2.2.1 6 d.toNatClampNeg).toInt → 0 ≤ oa_33.toInt ∧ oa_33.toInt ≤ 11520 ∧ ob_34.toInt ≤ 11520) ∧ (0 < (if y.toInt = 1 then yI (z.2.2.1 7 d.toNatClampNeg) (z.2.2.1 8 d.toNatClampNeg) (z.2.2.1 9 d.toNatClampNeg) (z.2.2.1 10 d.toNatClampNeg) (z.1 11) 1 else 24 * (z.2.2.1 6 d.toNatClampNeg).toInt - yI (z.2.2.1 7 d.toNatClampNeg) (z.2.2.1 8 d.toNatClampNeg) (z.2.2.1 9 d.toNatClampNeg) (z.2.2.1 10 d.toNatClampNeg) (z.1 11) 1) → 0 < (if y.toInt = 1 then yI (z.2.2.1 7 d.toNatClampNeg) (z.2.2.1 8 d.toNatClampNeg) (z.2.2.1 9 d.toNatClampNeg) (z.2.2.1 10 d.toNatClampNeg) (z.1 11) 0 else 24 * (z.2.2.1 6 d.toNatClampNeg).toInt - yI (z.2.2.1 7 d.toNatClampNeg) (z.2.2.1 8 d.toNatClampNeg) (z.2.2.1 9 d.toNatClampNeg) (z.2.2.1 10 d.toNatClampNeg) (z.1 11) 0) → 1 ≤ oa_33.toInt)) ∨ ((1 : Int32) = 0 ∧ (oa_33 = z.2.1 0) ∧ (ob_34 = z.2.1 1) ∧ ((if y.toInt = 1 then yI (z.2.2.1 7 d.toNatClampNeg) (z.2.2.1 8 d.toNatClampNeg) (z.2.2.1 9 d.toNatClampNeg) (z.2.2.1 10 d.toNatClampNeg) (z.1 11) 0 else 24 * (z.2.2.1 6 d.toNatClampNeg).toInt - yI (z.2.2.1 7 d.toNatClampNeg) (z.2.2.1 8 d.toNatClampNeg) (z.2.2.1 9 d.toNatClampNeg) (z.2.2.1 10 d.toNatClampNeg) (z.1 11) 0) = 0)) from (Or.inl ⟨rfl, by omega, by omega, fun q9 => by omega, fun q8 q9 => by split at q8 <;> split at q9 <;> omega⟩)), ⟨by rw [ht]; exact hP, hDa _⟩⟩, hS.F ht⟩) hS.2.2 dX7_gives_72
      · skip
        have hc_29 := zl_eq rfl (show (0 : Int64).toInt = 0 by decide) c_29
        refine lv_iconst (v := 0) hx hb dX7_gives_62 (by decide) ?_
        exact W.zret (v := 0) (ty := .boolean) hx hb hr rfl (fun t ht hW => ⟨⟨0, (z.2.1 0, z.2.1 1), rfl, (show ((0 : Int32) = 1 ∧ (1 ≤ (z.2.1 1).toInt ∧ (z.2.1 1).toInt ≤ 731520) ∧ (-731520 ≤ (z.2.1 0).toInt ∧ (z.2.1 0).toInt ≤ 731520) ∧ ((z.2.2.1 7 d.toNatClampNeg).toInt + (z.2.2.1 8 d.toNatClampNeg).toInt + (z.2.2.1 9 d.toNatClampNeg).toInt + (z.2.2.1 10 d.toNatClampNeg).toInt ≤ (z.2.2.1 6 d.toNatClampNeg).toInt → 0 ≤ (z.2.1 0).toInt ∧ (z.2.1 0).toInt ≤ 11520 ∧ (z.2.1 1).toInt ≤ 11520) ∧ (0 < (if y.toInt = 1 then yI (z.2.2.1 7 d.toNatClampNeg) (z.2.2.1 8 d.toNatClampNeg) (z.2.2.1 9 d.toNatClampNeg) (z.2.2.1 10 d.toNatClampNeg) (z.1 11) 1 else 24 * (z.2.2.1 6 d.toNatClampNeg).toInt - yI (z.2.2.1 7 d.toNatClampNeg) (z.2.2.1 8 d.toNatClampNeg) (z.2.2.1 9 d.toNatClampNeg) (z.2.2.1 10 d.toNatClampNeg) (z.1 11) 1) → 0 < (if y.toInt = 1 then yI (z.2.2.1 7 d.toNatClampNeg) (z.2.2.1 8 d.toNatClampNeg) (z.2.2.1 9 d.toNatClampNeg) (z.2.2.1 10 d.toNatClampNeg) (z.1 11) 0 else 24 * (z.2.2.1 6 d.toNatClampNeg).toInt - yI (z.2.2.1 7 d.toNatClampNeg) (z.2.2.1 8 d.toNatClampNeg) (z.2.2.1 9 d.toNatClampNeg) (z.2.2.1 10 d.toNatClampNeg) (z.1 11) 0) → 1 ≤ (z.2.1 0).toInt)) ∨ ((0 : Int32) = 0 ∧ ((z.2.1 0) = z.2.1 0) ∧ ((z.2.1 1) = z.2.1 1) ∧ ((if y.toInt = 1 then yI (z.2.2.1 7 d.toNatClampNeg) (z.2.2.1 8 d.toNatClampNeg) (z.2.2.1 9 d.toNatClampNeg) (z.2.2.1 10 d.toNatClampNeg) (z.1 11) 0 else 24 * (z.2.2.1 6 d.toNatClampNeg).toInt - yI (z.2.2.1 7 d.toNatClampNeg) (z.2.2.1 8 d.toNatClampNeg) (z.2.2.1 9 d.toNatClampNeg) (z.2.2.1 10 d.toNatClampNeg) (z.1 11) 0) = 0)) from (Or.inr ⟨rfl, rfl, rfl, by split <;> omega⟩)), ⟨by rw [ht]; exact hP, hDa _⟩⟩, hS.F ht⟩) hS.2.2 dX7_gives_63
    · skip
      have hc_15 := zb_eq rfl (show (1 : Int32).toInt = 1 by decide) c_15
      refine lv_aload_n hx hb dX7_gives_32 rfl (lv_at hl 1 rfl) ?_
      refine lv_iload_n hx hb dX7_gives_33 rfl (lv_at hl 2 rfl) ?_
      refine lv_iconst (v := 0) hx hb dX7_gives_34 (by decide) ?_
      refine zcA_l (w := (zM k q z)) (va_runV (As := [.int d, .int 0]) (rest := []) ⟨hx, hb, hml, hown, htb⟩ (c_X7_yesIf l dC dI k q z d 0 _ hI (by omega) hms) (cwV 2 htb (gzV wmt4_120 wmt4_122 wmp2_14 wmt1_8 wmt4_123) rfl rfl rfl (by decide +kernel) ⟨Nat.le_of_ble_eq_true rfl, Nat.le_of_ble_eq_true rfl⟩) (zpA_V (ci := 7) (q0 := 0) hK hP (hDa _) rfl rfl) rfl rfl hl.1 rfl (lv_room (Nat.le_of_ble_eq_true rfl)) dX7_gives_35 ⟨Nat.le_of_ble_eq_true rfl, Nat.le_of_ble_eq_true rfl⟩) (hDa _) hS hA (fun r_41 u_42 H locs w_43 hP _ hS => ?_)
      obtain ⟨h_44, h_45, h_46⟩ := w_43
      replace h_44 : 0 ≤ r_41.toInt ∧ r_41.toInt ≤ 720000 := h_44
      replace h_45 : (((z.2.2.1 7) d.toNatClampNeg).toInt + ((z.2.2.1 8) d.toNatClampNeg).toInt + ((z.2.2.1 9) d.toNatClampNeg).toInt + ((z.2.2.1 10) d.toNatClampNeg).toInt ≤ ((z.2.2.1 6) d.toNatClampNeg).toInt → r_41.toInt ≤ 24 * ((z.2.2.1 6) d.toNatClampNeg).toInt) := h_45
      replace h_46 : r_41.toInt = yI ((z.2.2.1 7) d.toNatClampNeg) ((z.2.2.1 8) d.toNatClampNeg) ((z.2.2.1 9) d.toNatClampNeg) ((z.2.2.1 10) d.toNatClampNeg) ((z.1 11)) (0 : Int32) := h_46
      have hy0 := h_45
      refine lv_goto (tgt := 53) hx hb dX7_gives_38 (by decide) ?_
      refine lv_lstore (lv' := [(5, .long r_41), (3, .long x_14), (0, .ref (q 0)), (1, .int d), (2, .int y)]) hx hb dX7_gives_53 hl (by decide) rfl (fun ls hl => ?_)
      refine lv_lload hx hb dX7_gives_55 (lv_at hl 0 rfl) ?_
      refine lv_lconst (v := 0) hx hb dX7_gives_57 (by decide) ?_
      refine z_lcmp hx hb dX7_gives_58 ?_
      refine lv_if_ne (tgt := 64) hx hb dX7_gives_59 (by decide) (fun c_48 => ?_) (fun c_48 => ?_)
      · skip
        have hc_48 := zl_ne rfl (show (0 : Int64).toInt = 0 by decide) c_48
        refine lv_aload_n hx hb dX7_gives_64 rfl (lv_at hl 2 rfl) ?_
        refine lv_lload_n hx hb dX7_gives_65 rfl (lv_at hl 1 rfl) ?_
        refine lv_lload hx hb dX7_gives_66 (lv_at hl 0 rfl) ?_
        refine zcA_v (w := (zM k q z)) (va_runV (As := [.long x_14, .long r_41]) (rest := []) ⟨hx, hb, hml, hown, htb⟩ (c_X7_is l dC dI k q z x_14 r_41 _ (show (-4611686018427387904 < x_14.toInt ∧ x_14.toInt < 4611686018427387904) by omega) (show (-4611686018427387904 < r_41.toInt ∧ r_41.toInt < 4611686018427387904) by omega) (show r_41.toInt ≠ 0 by omega)) (cwV 2 htb (gzV wmt4_129 wmt4_131 wmp3_0 wmt1_8 wmt4_132) rfl rfl rfl (by decide +kernel) ⟨Nat.le_of_ble_eq_true rfl, Nat.le_of_ble_eq_true rfl⟩) (zpA_V (ci := 7) (q0 := 0) hK hP (hDa _) rfl rfl) rfl rfl hl.1 rfl (lv_room (Nat.le_of_ble_eq_true rfl)) dX7_gives_68 ⟨Nat.le_of_ble_eq_true rfl, Nat.le_of_ble_eq_true rfl⟩) (hDa _) hS hA (fun u_50 H locs w_51 hP _ hS => ?_)
        obtain ⟨oa_52, ob_53⟩ := u_50
        have hP : va_P (dC, dI) vwCl (zM k q (sJ (sJ z 0 oa_52) 1 ob_53)) H := hP
        obtain ⟨h_54, h_55, h_56, h_57, h_58⟩ := w_51
        replace h_54 : 1 ≤ ob_53.toInt ∧ ob_53.toInt ≤ (r_41.toInt.natAbs : Int) := h_54
        replace h_55 : (oa_52.toInt.natAbs : Int) ≤ (x_14.toInt.natAbs : Int) := h_55
        replace h_56 : (0 ≤ x_14.toInt → 0 < r_41.toInt → 0 ≤ oa_52.toInt) ∧ (0 < x_14.toInt → 0 < r_41.toInt → 1 ≤ oa_52.toInt) := h_56
        replace h_57 : ob_53.toInt = ((r_41.toInt.natAbs / Nat.gcd x_14.toInt.natAbs r_41.toInt.natAbs : Nat) : Int) := h_57
        replace h_58 : oa_52.toInt = x_14.toInt.tdiv (if r_41.toInt < 0 then -(Nat.gcd x_14.toInt.natAbs r_41.toInt.natAbs : Int) else (Nat.gcd x_14.toInt.natAbs r_41.toInt.natAbs : Int)) := h_58
        have his0 := h_54
        have his1 := h_55
        have his2 := h_56
        have his3 := h_57
        have his4 := h_58
        refine lv_iconst (v := 1) hx hb dX7_gives_71 (by decide) ?_
        exact W.zret (v := 1) (ty := .boolean) hx hb hr rfl (fun t ht hW => ⟨⟨1, (oa_52, ob_53), rfl, (show ((1 : Int32) = 1 ∧ (1 ≤ ob_53.toInt ∧ ob_53.toInt ≤ 731520) ∧ (-731520 ≤ oa_52.toInt ∧ oa_52.toInt ≤ 731520) ∧ ((z.2.2.1 7 d.toNatClampNeg).toInt + (z.2.2.1 8 d.toNatClampNeg).toInt + (z.2.2.1 9 d.toNatClampNeg).toInt + (z.2.2.1 10 d.toNatClampNeg).toInt ≤ (z.2.2.1 6 d.toNatClampNeg).toInt → 0 ≤ oa_52.toInt ∧ oa_52.toInt ≤ 11520 ∧ ob_53.toInt ≤ 11520) ∧ (0 < (if y.toInt = 1 then yI (z.2.2.1 7 d.toNatClampNeg) (z.2.2.1 8 d.toNatClampNeg) (z.2.2.1 9 d.toNatClampNeg) (z.2.2.1 10 d.toNatClampNeg) (z.1 11) 1 else 24 * (z.2.2.1 6 d.toNatClampNeg).toInt - yI (z.2.2.1 7 d.toNatClampNeg) (z.2.2.1 8 d.toNatClampNeg) (z.2.2.1 9 d.toNatClampNeg) (z.2.2.1 10 d.toNatClampNeg) (z.1 11) 1) → 0 < (if y.toInt = 1 then yI (z.2.2.1 7 d.toNatClampNeg) (z.2.2.1 8 d.toNatClampNeg) (z.2.2.1 9 d.toNatClampNeg) (z.2.2.1 10 d.toNatClampNeg) (z.1 11) 0 else 24 * (z.2.2.1 6 d.toNatClampNeg).toInt - yI (z.2.2.1 7 d.toNatClampNeg) (z.2.2.1 8 d.toNatClampNeg) (z.2.2.1 9 d.toNatClampNeg) (z.2.2.1 10 d.toNatClampNeg) (z.1 11) 0) → 1 ≤ oa_52.toInt)) ∨ ((1 : Int32) = 0 ∧ (oa_52 = z.2.1 0) ∧ (ob_53 = z.2.1 1) ∧ ((if y.toInt = 1 then yI (z.2.2.1 7 d.toNatClampNeg) (z.2.2.1 8 d.toNatClampNeg) (z.2.2.1 9 d.toNatClampNeg) (z.2.2.1 10 d.toNatClampNeg) (z.1 11) 0 else 24 * (z.2.2.1 6 d.toNatClampNeg).toInt - yI (z.2.2.1 7 d.toNatClampNeg) (z.2.2.1 8 d.toNatClampNeg) (z.2.2.1 9 d.toNatClampNeg) (z.2.2.1 10 d.toNatClampNeg) (z.1 11) 0) = 0)) from (Or.inl ⟨rfl, by omega, by omega, fun q9 => by omega, fun q8 q9 => by split at q8 <;> split at q9 <;> omega⟩)), ⟨by rw [ht]; exact hP, hDa _⟩⟩, hS.F ht⟩) hS.2.2 dX7_gives_72
      · skip
        have hc_48 := zl_eq rfl (show (0 : Int64).toInt = 0 by decide) c_48
        refine lv_iconst (v := 0) hx hb dX7_gives_62 (by decide) ?_
        exact W.zret (v := 0) (ty := .boolean) hx hb hr rfl (fun t ht hW => ⟨⟨0, (z.2.1 0, z.2.1 1), rfl, (show ((0 : Int32) = 1 ∧ (1 ≤ (z.2.1 1).toInt ∧ (z.2.1 1).toInt ≤ 731520) ∧ (-731520 ≤ (z.2.1 0).toInt ∧ (z.2.1 0).toInt ≤ 731520) ∧ ((z.2.2.1 7 d.toNatClampNeg).toInt + (z.2.2.1 8 d.toNatClampNeg).toInt + (z.2.2.1 9 d.toNatClampNeg).toInt + (z.2.2.1 10 d.toNatClampNeg).toInt ≤ (z.2.2.1 6 d.toNatClampNeg).toInt → 0 ≤ (z.2.1 0).toInt ∧ (z.2.1 0).toInt ≤ 11520 ∧ (z.2.1 1).toInt ≤ 11520) ∧ (0 < (if y.toInt = 1 then yI (z.2.2.1 7 d.toNatClampNeg) (z.2.2.1 8 d.toNatClampNeg) (z.2.2.1 9 d.toNatClampNeg) (z.2.2.1 10 d.toNatClampNeg) (z.1 11) 1 else 24 * (z.2.2.1 6 d.toNatClampNeg).toInt - yI (z.2.2.1 7 d.toNatClampNeg) (z.2.2.1 8 d.toNatClampNeg) (z.2.2.1 9 d.toNatClampNeg) (z.2.2.1 10 d.toNatClampNeg) (z.1 11) 1) → 0 < (if y.toInt = 1 then yI (z.2.2.1 7 d.toNatClampNeg) (z.2.2.1 8 d.toNatClampNeg) (z.2.2.1 9 d.toNatClampNeg) (z.2.2.1 10 d.toNatClampNeg) (z.1 11) 0 else 24 * (z.2.2.1 6 d.toNatClampNeg).toInt - yI (z.2.2.1 7 d.toNatClampNeg) (z.2.2.1 8 d.toNatClampNeg) (z.2.2.1 9 d.toNatClampNeg) (z.2.2.1 10 d.toNatClampNeg) (z.1 11) 0) → 1 ≤ (z.2.1 0).toInt)) ∨ ((0 : Int32) = 0 ∧ ((z.2.1 0) = z.2.1 0) ∧ ((z.2.1 1) = z.2.1 1) ∧ ((if y.toInt = 1 then yI (z.2.2.1 7 d.toNatClampNeg) (z.2.2.1 8 d.toNatClampNeg) (z.2.2.1 9 d.toNatClampNeg) (z.2.2.1 10 d.toNatClampNeg) (z.1 11) 0 else 24 * (z.2.2.1 6 d.toNatClampNeg).toInt - yI (z.2.2.1 7 d.toNatClampNeg) (z.2.2.1 8 d.toNatClampNeg) (z.2.2.1 9 d.toNatClampNeg) (z.2.2.1 10 d.toNatClampNeg) (z.1 11) 0) = 0)) from (Or.inr ⟨rfl, rfl, rfl, by split <;> omega⟩)), ⟨by rw [ht]; exact hP, hDa _⟩⟩, hS.F ht⟩) hS.2.2 dX7_gives_63
  · skip
    have hc_1 := zb_eq rfl (show (1 : Int32).toInt = 1 by decide) c_1
    refine lv_aload_n hx hb dX7_gives_5 rfl (lv_at hl 0 rfl) ?_
    refine lv_iload_n hx hb dX7_gives_6 rfl (lv_at hl 1 rfl) ?_
    refine lv_iconst (v := 1) hx hb dX7_gives_7 (by decide) ?_
    refine zcA_l (w := (zM k q z)) (va_runV (As := [.int d, .int 1]) (rest := []) ⟨hx, hb, hml, hown, htb⟩ (c_X7_yesIf l dC dI k q z d 1 _ hI (by omega) hms) (cwV 2 htb (gzV wmt4_120 wmt4_122 wmp2_14 wmt1_8 wmt4_123) rfl rfl rfl (by decide +kernel) ⟨Nat.le_of_ble_eq_true rfl, Nat.le_of_ble_eq_true rfl⟩) (zpA_V (ci := 7) (q0 := 0) hK hP (hDa _) rfl rfl) rfl rfl hl.1 rfl (lv_room (Nat.le_of_ble_eq_true rfl)) dX7_gives_8 ⟨Nat.le_of_ble_eq_true rfl, Nat.le_of_ble_eq_true rfl⟩) (hDa _) hS hA (fun r_60 u_61 H locs w_62 hP _ hS => ?_)
    obtain ⟨h_63, h_64, h_65⟩ := w_62
    replace h_63 : 0 ≤ r_60.toInt ∧ r_60.toInt ≤ 720000 := h_63
    replace h_64 : (((z.2.2.1 7) d.toNatClampNeg).toInt + ((z.2.2.1 8) d.toNatClampNeg).toInt + ((z.2.2.1 9) d.toNatClampNeg).toInt + ((z.2.2.1 10) d.toNatClampNeg).toInt ≤ ((z.2.2.1 6) d.toNatClampNeg).toInt → r_60.toInt ≤ 24 * ((z.2.2.1 6) d.toNatClampNeg).toInt) := h_64
    replace h_65 : r_60.toInt = yI ((z.2.2.1 7) d.toNatClampNeg) ((z.2.2.1 8) d.toNatClampNeg) ((z.2.2.1 9) d.toNatClampNeg) ((z.2.2.1 10) d.toNatClampNeg) ((z.1 11)) (1 : Int32) := h_65
    have hy1 := h_64
    refine lv_goto (tgt := 26) hx hb dX7_gives_11 (by decide) ?_
    refine lv_lstore_n (lv' := [(3, .long r_60), (0, .ref (q 0)), (1, .int d), (2, .int y)]) hx hb dX7_gives_26 rfl hl (by decide) rfl (fun ls hl => ?_)
    refine lv_iload_n hx hb dX7_gives_27 rfl (lv_at hl 3 rfl) ?_
    refine lv_iconst (v := 1) hx hb dX7_gives_28 (by decide) ?_
    refine lv_icmp_ne (tgt := 41) hx hb dX7_gives_29 (by decide) (fun c_67 => ?_) (fun c_67 => ?_)
    · skip
      have hc_67 := zb_ne rfl (show (1 : Int32).toInt = 1 by decide) c_67
      refine lv_aload_n hx hb dX7_gives_41 rfl (lv_at hl 1 rfl) ?_
      refine lv_iload_n hx hb dX7_gives_42 rfl (lv_at hl 2 rfl) ?_
      refine zcA_l (w := (zM k q z)) (va_runV (As := [.int d]) (rest := []) ⟨hx, hb, hml, hown, htb⟩ (c_X7_base l dC dI k q z d _ (by omega) hms) (cwV 1 htb (gzV wmt4_125 wmt4_127 wmp2_15 wmt1_8 wmt4_128) rfl rfl rfl (by decide +kernel) ⟨Nat.le_of_ble_eq_true rfl, Nat.le_of_ble_eq_true rfl⟩) (zpA_V (ci := 7) (q0 := 0) hK hP (hDa _) rfl rfl) rfl rfl hl.1 rfl (lv_room (Nat.le_of_ble_eq_true rfl)) dX7_gives_43 ⟨Nat.le_of_ble_eq_true rfl, Nat.le_of_ble_eq_true rfl⟩) (hDa _) hS hA (fun r_68 u_69 H locs w_70 hP _ hS => ?_)
      have h_71 := w_70
      replace h_71 : r_68.toInt = 24 * ((z.2.2.1 6) d.toNatClampNeg).toInt := h_71
      refine lv_aload_n hx hb dX7_gives_46 rfl (lv_at hl 1 rfl) ?_
      refine lv_iload_n hx hb dX7_gives_47 rfl (lv_at hl 2 rfl) ?_
      refine lv_iconst (v := 0) hx hb dX7_gives_48 (by decide) ?_
      refine zcA_l (w := (zM k q z)) (va_runV (As := [.int d, .int 0]) (rest := [.long r_68]) ⟨hx, hb, hml, hown, htb⟩ (c_X7_yesIf l dC dI k q z d 0 _ hI (by omega) hms) (cwV 2 htb (gzV wmt4_120 wmt4_122 wmp2_14 wmt1_8 wmt4_123) rfl rfl rfl (by decide +kernel) ⟨Nat.le_of_ble_eq_true rfl, Nat.le_of_ble_eq_true rfl⟩) (zpA_V (ci := 7) (q0 := 0) hK hP (hDa _) rfl rfl) rfl rfl hl.1 rfl (lv_room (Nat.le_of_ble_eq_true rfl)) dX7_gives_49 ⟨Nat.le_of_ble_eq_true rfl, Nat.le_of_ble_eq_true rfl⟩) (hDa _) hS hA (fun r_73 u_74 H locs w_75 hP _ hS => ?_)
      obtain ⟨h_76, h_77, h_78⟩ := w_75
      replace h_76 : 0 ≤ r_73.toInt ∧ r_73.toInt ≤ 720000 := h_76
      replace h_77 : (((z.2.2.1 7) d.toNatClampNeg).toInt + ((z.2.2.1 8) d.toNatClampNeg).toInt + ((z.2.2.1 9) d.toNatClampNeg).toInt + ((z.2.2.1 10) d.toNatClampNeg).toInt ≤ ((z.2.2.1 6) d.toNatClampNeg).toInt → r_73.toInt ≤ 24 * ((z.2.2.1 6) d.toNatClampNeg).toInt) := h_77
      replace h_78 : r_73.toInt = yI ((z.2.2.1 7) d.toNatClampNeg) ((z.2.2.1 8) d.toNatClampNeg) ((z.2.2.1 9) d.toNatClampNeg) ((z.2.2.1 10) d.toNatClampNeg) ((z.1 11)) (0 : Int32) := h_78
      have hy0 := h_77
      refine lv_lsub hx hb dX7_gives_52 ?_
      refine lv_topl (fun x_80 ex_80 => ?_)
      have hx_80 := zl_sub ex_80 rfl rfl (by omega)
      refine lv_lstore (lv' := [(5, .long x_80), (3, .long r_60), (0, .ref (q 0)), (1, .int d), (2, .int y)]) hx hb dX7_gives_53 hl (by decide) rfl (fun ls hl => ?_)
      refine lv_lload hx hb dX7_gives_55 (lv_at hl 0 rfl) ?_
      refine lv_lconst (v := 0) hx hb dX7_gives_57 (by decide) ?_
      refine z_lcmp hx hb dX7_gives_58 ?_
      refine lv_if_ne (tgt := 64) hx hb dX7_gives_59 (by decide) (fun c_81 => ?_) (fun c_81 => ?_)
      · skip
        have hc_81 := zl_ne rfl (show (0 : Int64).toInt = 0 by decide) c_81
        refine lv_aload_n hx hb dX7_gives_64 rfl (lv_at hl 2 rfl) ?_
        refine lv_lload_n hx hb dX7_gives_65 rfl (lv_at hl 1 rfl) ?_
        refine lv_lload hx hb dX7_gives_66 (lv_at hl 0 rfl) ?_
        refine zcA_v (w := (zM k q z)) (va_runV (As := [.long r_60, .long x_80]) (rest := []) ⟨hx, hb, hml, hown, htb⟩ (c_X7_is l dC dI k q z r_60 x_80 _ (show (-4611686018427387904 < r_60.toInt ∧ r_60.toInt < 4611686018427387904) by omega) (show (-4611686018427387904 < x_80.toInt ∧ x_80.toInt < 4611686018427387904) by omega) (show x_80.toInt ≠ 0 by omega)) (cwV 2 htb (gzV wmt4_129 wmt4_131 wmp3_0 wmt1_8 wmt4_132) rfl rfl rfl (by decide +kernel) ⟨Nat.le_of_ble_eq_true rfl, Nat.le_of_ble_eq_true rfl⟩) (zpA_V (ci := 7) (q0 := 0) hK hP (hDa _) rfl rfl) rfl rfl hl.1 rfl (lv_room (Nat.le_of_ble_eq_true rfl)) dX7_gives_68 ⟨Nat.le_of_ble_eq_true rfl, Nat.le_of_ble_eq_true rfl⟩) (hDa _) hS hA (fun u_83 H locs w_84 hP _ hS => ?_)
        obtain ⟨oa_85, ob_86⟩ := u_83
        have hP : va_P (dC, dI) vwCl (zM k q (sJ (sJ z 0 oa_85) 1 ob_86)) H := hP
        obtain ⟨h_87, h_88, h_89, h_90, h_91⟩ := w_84
        replace h_87 : 1 ≤ ob_86.toInt ∧ ob_86.toInt ≤ (x_80.toInt.natAbs : Int) := h_87
        replace h_88 : (oa_85.toInt.natAbs : Int) ≤ (r_60.toInt.natAbs : Int) := h_88
        replace h_89 : (0 ≤ r_60.toInt → 0 < x_80.toInt → 0 ≤ oa_85.toInt) ∧ (0 < r_60.toInt → 0 < x_80.toInt → 1 ≤ oa_85.toInt) := h_89
        replace h_90 : ob_86.toInt = ((x_80.toInt.natAbs / Nat.gcd r_60.toInt.natAbs x_80.toInt.natAbs : Nat) : Int) := h_90
        replace h_91 : oa_85.toInt = r_60.toInt.tdiv (if x_80.toInt < 0 then -(Nat.gcd r_60.toInt.natAbs x_80.toInt.natAbs : Int) else (Nat.gcd r_60.toInt.natAbs x_80.toInt.natAbs : Int)) := h_91
        have his0 := h_87
        have his1 := h_88
        have his2 := h_89
        have his3 := h_90
        have his4 := h_91
        refine lv_iconst (v := 1) hx hb dX7_gives_71 (by decide) ?_
        exact W.zret (v := 1) (ty := .boolean) hx hb hr rfl (fun t ht hW => ⟨⟨1, (oa_85, ob_86), rfl, (show ((1 : Int32) = 1 ∧ (1 ≤ ob_86.toInt ∧ ob_86.toInt ≤ 731520) ∧ (-731520 ≤ oa_85.toInt ∧ oa_85.toInt ≤ 731520) ∧ ((z.2.2.1 7 d.toNatClampNeg).toInt + (z.2.2.1 8 d.toNatClampNeg).toInt + (z.2.2.1 9 d.toNatClampNeg).toInt + (z.2.2.1 10 d.toNatClampNeg).toInt ≤ (z.2.2.1 6 d.toNatClampNeg).toInt → 0 ≤ oa_85.toInt ∧ oa_85.toInt ≤ 11520 ∧ ob_86.toInt ≤ 11520) ∧ (0 < (if y.toInt = 1 then yI (z.2.2.1 7 d.toNatClampNeg) (z.2.2.1 8 d.toNatClampNeg) (z.2.2.1 9 d.toNatClampNeg) (z.2.2.1 10 d.toNatClampNeg) (z.1 11) 1 else 24 * (z.2.2.1 6 d.toNatClampNeg).toInt - yI (z.2.2.1 7 d.toNatClampNeg) (z.2.2.1 8 d.toNatClampNeg) (z.2.2.1 9 d.toNatClampNeg) (z.2.2.1 10 d.toNatClampNeg) (z.1 11) 1) → 0 < (if y.toInt = 1 then yI (z.2.2.1 7 d.toNatClampNeg) (z.2.2.1 8 d.toNatClampNeg) (z.2.2.1 9 d.toNatClampNeg) (z.2.2.1 10 d.toNatClampNeg) (z.1 11) 0 else 24 * (z.2.2.1 6 d.toNatClampNeg).toInt - yI (z.2.2.1 7 d.toNatClampNeg) (z.2.2.1 8 d.toNatClampNeg) (z.2.2.1 9 d.toNatClampNeg) (z.2.2.1 10 d.toNatClampNeg) (z.1 11) 0) → 1 ≤ oa_85.toInt)) ∨ ((1 : Int32) = 0 ∧ (oa_85 = z.2.1 0) ∧ (ob_86 = z.2.1 1) ∧ ((if y.toInt = 1 then yI (z.2.2.1 7 d.toNatClampNeg) (z.2.2.1 8 d.toNatClampNeg) (z.2.2.1 9 d.toNatClampNeg) (z.2.2.1 10 d.toNatClampNeg) (z.1 11) 0 else 24 * (z.2.2.1 6 d.toNatClampNeg).toInt - yI (z.2.2.1 7 d.toNatClampNeg) (z.2.2.1 8 d.toNatClampNeg) (z.2.2.1 9 d.toNatClampNeg) (z.2.2.1 10 d.toNatClampNeg) (z.1 11) 0) = 0)) from (Or.inl ⟨rfl, by omega, by omega, fun q9 => by omega, fun q8 q9 => by split at q8 <;> split at q9 <;> omega⟩)), ⟨by rw [ht]; exact hP, hDa _⟩⟩, hS.F ht⟩) hS.2.2 dX7_gives_72
      · skip
        have hc_81 := zl_eq rfl (show (0 : Int64).toInt = 0 by decide) c_81
        refine lv_iconst (v := 0) hx hb dX7_gives_62 (by decide) ?_
        exact W.zret (v := 0) (ty := .boolean) hx hb hr rfl (fun t ht hW => ⟨⟨0, (z.2.1 0, z.2.1 1), rfl, (show ((0 : Int32) = 1 ∧ (1 ≤ (z.2.1 1).toInt ∧ (z.2.1 1).toInt ≤ 731520) ∧ (-731520 ≤ (z.2.1 0).toInt ∧ (z.2.1 0).toInt ≤ 731520) ∧ ((z.2.2.1 7 d.toNatClampNeg).toInt + (z.2.2.1 8 d.toNatClampNeg).toInt + (z.2.2.1 9 d.toNatClampNeg).toInt + (z.2.2.1 10 d.toNatClampNeg).toInt ≤ (z.2.2.1 6 d.toNatClampNeg).toInt → 0 ≤ (z.2.1 0).toInt ∧ (z.2.1 0).toInt ≤ 11520 ∧ (z.2.1 1).toInt ≤ 11520) ∧ (0 < (if y.toInt = 1 then yI (z.2.2.1 7 d.toNatClampNeg) (z.2.2.1 8 d.toNatClampNeg) (z.2.2.1 9 d.toNatClampNeg) (z.2.2.1 10 d.toNatClampNeg) (z.1 11) 1 else 24 * (z.2.2.1 6 d.toNatClampNeg).toInt - yI (z.2.2.1 7 d.toNatClampNeg) (z.2.2.1 8 d.toNatClampNeg) (z.2.2.1 9 d.toNatClampNeg) (z.2.2.1 10 d.toNatClampNeg) (z.1 11) 1) → 0 < (if y.toInt = 1 then yI (z.2.2.1 7 d.toNatClampNeg) (z.2.2.1 8 d.toNatClampNeg) (z.2.2.1 9 d.toNatClampNeg) (z.2.2.1 10 d.toNatClampNeg) (z.1 11) 0 else 24 * (z.2.2.1 6 d.toNatClampNeg).toInt - yI (z.2.2.1 7 d.toNatClampNeg) (z.2.2.1 8 d.toNatClampNeg) (z.2.2.1 9 d.toNatClampNeg) (z.2.2.1 10 d.toNatClampNeg) (z.1 11) 0) → 1 ≤ (z.2.1 0).toInt)) ∨ ((0 : Int32) = 0 ∧ ((z.2.1 0) = z.2.1 0) ∧ ((z.2.1 1) = z.2.1 1) ∧ ((if y.toInt = 1 then yI (z.2.2.1 7 d.toNatClampNeg) (z.2.2.1 8 d.toNatClampNeg) (z.2.2.1 9 d.toNatClampNeg) (z.2.2.1 10 d.toNatClampNeg) (z.1 11) 0 else 24 * (z.2.2.1 6 d.toNatClampNeg).toInt - yI (z.2.2.1 7 d.toNatClampNeg) (z.2.2.1 8 d.toNatClampNeg) (z.2.2.1 9 d.toNatClampNeg) (z.2.2.1 10 d.toNatClampNeg) (z.1 11) 0) = 0)) from (Or.inr ⟨rfl, rfl, rfl, by split <;> omega⟩)), ⟨by rw [ht]; exact hP, hDa _⟩⟩, hS.F ht⟩) hS.2.2 dX7_gives_63
    · skip
      have hc_67 := zb_eq rfl (show (1 : Int32).toInt = 1 by decide) c_67
      refine lv_aload_n hx hb dX7_gives_32 rfl (lv_at hl 1 rfl) ?_
      refine lv_iload_n hx hb dX7_gives_33 rfl (lv_at hl 2 rfl) ?_
      refine lv_iconst (v := 0) hx hb dX7_gives_34 (by decide) ?_
      refine zcA_l (w := (zM k q z)) (va_runV (As := [.int d, .int 0]) (rest := []) ⟨hx, hb, hml, hown, htb⟩ (c_X7_yesIf l dC dI k q z d 0 _ hI (by omega) hms) (cwV 2 htb (gzV wmt4_120 wmt4_122 wmp2_14 wmt1_8 wmt4_123) rfl rfl rfl (by decide +kernel) ⟨Nat.le_of_ble_eq_true rfl, Nat.le_of_ble_eq_true rfl⟩) (zpA_V (ci := 7) (q0 := 0) hK hP (hDa _) rfl rfl) rfl rfl hl.1 rfl (lv_room (Nat.le_of_ble_eq_true rfl)) dX7_gives_35 ⟨Nat.le_of_ble_eq_true rfl, Nat.le_of_ble_eq_true rfl⟩) (hDa _) hS hA (fun r_93 u_94 H locs w_95 hP _ hS => ?_)
      obtain ⟨h_96, h_97, h_98⟩ := w_95
      replace h_96 : 0 ≤ r_93.toInt ∧ r_93.toInt ≤ 720000 := h_96
      replace h_97 : (((z.2.2.1 7) d.toNatClampNeg).toInt + ((z.2.2.1 8) d.toNatClampNeg).toInt + ((z.2.2.1 9) d.toNatClampNeg).toInt + ((z.2.2.1 10) d.toNatClampNeg).toInt ≤ ((z.2.2.1 6) d.toNatClampNeg).toInt → r_93.toInt ≤ 24 * ((z.2.2.1 6) d.toNatClampNeg).toInt) := h_97
      replace h_98 : r_93.toInt = yI ((z.2.2.1 7) d.toNatClampNeg) ((z.2.2.1 8) d.toNatClampNeg) ((z.2.2.1 9) d.toNatClampNeg) ((z.2.2.1 10) d.toNatClampNeg) ((z.1 11)) (0 : Int32) := h_98
      have hy0 := h_97
      refine lv_goto (tgt := 53) hx hb dX7_gives_38 (by decide) ?_
      refine lv_lstore (lv' := [(5, .long r_93), (3, .long r_60), (0, .ref (q 0)), (1, .int d), (2, .int y)]) hx hb dX7_gives_53 hl (by decide) rfl (fun ls hl => ?_)
      refine lv_lload hx hb dX7_gives_55 (lv_at hl 0 rfl) ?_
      refine lv_lconst (v := 0) hx hb dX7_gives_57 (by decide) ?_
      refine z_lcmp hx hb dX7_gives_58 ?_
      refine lv_if_ne (tgt := 64) hx hb dX7_gives_59 (by decide) (fun c_100 => ?_) (fun c_100 => ?_)
      · skip
        have hc_100 := zl_ne rfl (show (0 : Int64).toInt = 0 by decide) c_100
        refine lv_aload_n hx hb dX7_gives_64 rfl (lv_at hl 2 rfl) ?_
        refine lv_lload_n hx hb dX7_gives_65 rfl (lv_at hl 1 rfl) ?_
        refine lv_lload hx hb dX7_gives_66 (lv_at hl 0 rfl) ?_
        refine zcA_v (w := (zM k q z)) (va_runV (As := [.long r_60, .long r_93]) (rest := []) ⟨hx, hb, hml, hown, htb⟩ (c_X7_is l dC dI k q z r_60 r_93 _ (show (-4611686018427387904 < r_60.toInt ∧ r_60.toInt < 4611686018427387904) by omega) (show (-4611686018427387904 < r_93.toInt ∧ r_93.toInt < 4611686018427387904) by omega) (show r_93.toInt ≠ 0 by omega)) (cwV 2 htb (gzV wmt4_129 wmt4_131 wmp3_0 wmt1_8 wmt4_132) rfl rfl rfl (by decide +kernel) ⟨Nat.le_of_ble_eq_true rfl, Nat.le_of_ble_eq_true rfl⟩) (zpA_V (ci := 7) (q0 := 0) hK hP (hDa _) rfl rfl) rfl rfl hl.1 rfl (lv_room (Nat.le_of_ble_eq_true rfl)) dX7_gives_68 ⟨Nat.le_of_ble_eq_true rfl, Nat.le_of_ble_eq_true rfl⟩) (hDa _) hS hA (fun u_102 H locs w_103 hP _ hS => ?_)
        obtain ⟨oa_104, ob_105⟩ := u_102
        have hP : va_P (dC, dI) vwCl (zM k q (sJ (sJ z 0 oa_104) 1 ob_105)) H := hP
        obtain ⟨h_106, h_107, h_108, h_109, h_110⟩ := w_103
        replace h_106 : 1 ≤ ob_105.toInt ∧ ob_105.toInt ≤ (r_93.toInt.natAbs : Int) := h_106
        replace h_107 : (oa_104.toInt.natAbs : Int) ≤ (r_60.toInt.natAbs : Int) := h_107
        replace h_108 : (0 ≤ r_60.toInt → 0 < r_93.toInt → 0 ≤ oa_104.toInt) ∧ (0 < r_60.toInt → 0 < r_93.toInt → 1 ≤ oa_104.toInt) := h_108
        replace h_109 : ob_105.toInt = ((r_93.toInt.natAbs / Nat.gcd r_60.toInt.natAbs r_93.toInt.natAbs : Nat) : Int) := h_109
        replace h_110 : oa_104.toInt = r_60.toInt.tdiv (if r_93.toInt < 0 then -(Nat.gcd r_60.toInt.natAbs r_93.toInt.natAbs : Int) else (Nat.gcd r_60.toInt.natAbs r_93.toInt.natAbs : Int)) := h_110
        have his0 := h_106
        have his1 := h_107
        have his2 := h_108
        have his3 := h_109
        have his4 := h_110
        refine lv_iconst (v := 1) hx hb dX7_gives_71 (by decide) ?_
        exact W.zret (v := 1) (ty := .boolean) hx hb hr rfl (fun t ht hW => ⟨⟨1, (oa_104, ob_105), rfl, (show ((1 : Int32) = 1 ∧ (1 ≤ ob_105.toInt ∧ ob_105.toInt ≤ 731520) ∧ (-731520 ≤ oa_104.toInt ∧ oa_104.toInt ≤ 731520) ∧ ((z.2.2.1 7 d.toNatClampNeg).toInt + (z.2.2.1 8 d.toNatClampNeg).toInt + (z.2.2.1 9 d.toNatClampNeg).toInt + (z.2.2.1 10 d.toNatClampNeg).toInt ≤ (z.2.2.1 6 d.toNatClampNeg).toInt → 0 ≤ oa_104.toInt ∧ oa_104.toInt ≤ 11520 ∧ ob_105.toInt ≤ 11520) ∧ (0 < (if y.toInt = 1 then yI (z.2.2.1 7 d.toNatClampNeg) (z.2.2.1 8 d.toNatClampNeg) (z.2.2.1 9 d.toNatClampNeg) (z.2.2.1 10 d.toNatClampNeg) (z.1 11) 1 else 24 * (z.2.2.1 6 d.toNatClampNeg).toInt - yI (z.2.2.1 7 d.toNatClampNeg) (z.2.2.1 8 d.toNatClampNeg) (z.2.2.1 9 d.toNatClampNeg) (z.2.2.1 10 d.toNatClampNeg) (z.1 11) 1) → 0 < (if y.toInt = 1 then yI (z.2.2.1 7 d.toNatClampNeg) (z.2.2.1 8 d.toNatClampNeg) (z.2.2.1 9 d.toNatClampNeg) (z.2.2.1 10 d.toNatClampNeg) (z.1 11) 0 else 24 * (z.2.2.1 6 d.toNatClampNeg).toInt - yI (z.2.2.1 7 d.toNatClampNeg) (z.2.2.1 8 d.toNatClampNeg) (z.2.2.1 9 d.toNatClampNeg) (z.2.2.1 10 d.toNatClampNeg) (z.1 11) 0) → 1 ≤ oa_104.toInt)) ∨ ((1 : Int32) = 0 ∧ (oa_104 = z.2.1 0) ∧ (ob_105 = z.2.1 1) ∧ ((if y.toInt = 1 then yI (z.2.2.1 7 d.toNatClampNeg) (z.2.2.1 8 d.toNatClampNeg) (z.2.2.1 9 d.toNatClampNeg) (z.2.2.1 10 d.toNatClampNeg) (z.1 11) 0 else 24 * (z.2.2.1 6 d.toNatClampNeg).toInt - yI (z.2.2.1 7 d.toNatClampNeg) (z.2.2.1 8 d.toNatClampNeg) (z.2.2.1 9 d.toNatClampNeg) (z.2.2.1 10 d.toNatClampNeg) (z.1 11) 0) = 0)) from (Or.inl ⟨rfl, by omega, by omega, fun q9 => by omega, fun q8 q9 => by split at q8 <;> split at q9 <;> omega⟩)), ⟨by rw [ht]; exact hP, hDa _⟩⟩, hS.F ht⟩) hS.2.2 dX7_gives_72
      · skip
        have hc_100 := zl_eq rfl (show (0 : Int64).toInt = 0 by decide) c_100
        refine lv_iconst (v := 0) hx hb dX7_gives_62 (by decide) ?_
        exact W.zret (v := 0) (ty := .boolean) hx hb hr rfl (fun t ht hW => ⟨⟨0, (z.2.1 0, z.2.1 1), rfl, (show ((0 : Int32) = 1 ∧ (1 ≤ (z.2.1 1).toInt ∧ (z.2.1 1).toInt ≤ 731520) ∧ (-731520 ≤ (z.2.1 0).toInt ∧ (z.2.1 0).toInt ≤ 731520) ∧ ((z.2.2.1 7 d.toNatClampNeg).toInt + (z.2.2.1 8 d.toNatClampNeg).toInt + (z.2.2.1 9 d.toNatClampNeg).toInt + (z.2.2.1 10 d.toNatClampNeg).toInt ≤ (z.2.2.1 6 d.toNatClampNeg).toInt → 0 ≤ (z.2.1 0).toInt ∧ (z.2.1 0).toInt ≤ 11520 ∧ (z.2.1 1).toInt ≤ 11520) ∧ (0 < (if y.toInt = 1 then yI (z.2.2.1 7 d.toNatClampNeg) (z.2.2.1 8 d.toNatClampNeg) (z.2.2.1 9 d.toNatClampNeg) (z.2.2.1 10 d.toNatClampNeg) (z.1 11) 1 else 24 * (z.2.2.1 6 d.toNatClampNeg).toInt - yI (z.2.2.1 7 d.toNatClampNeg) (z.2.2.1 8 d.toNatClampNeg) (z.2.2.1 9 d.toNatClampNeg) (z.2.2.1 10 d.toNatClampNeg) (z.1 11) 1) → 0 < (if y.toInt = 1 then yI (z.2.2.1 7 d.toNatClampNeg) (z.2.2.1 8 d.toNatClampNeg) (z.2.2.1 9 d.toNatClampNeg) (z.2.2.1 10 d.toNatClampNeg) (z.1 11) 0 else 24 * (z.2.2.1 6 d.toNatClampNeg).toInt - yI (z.2.2.1 7 d.toNatClampNeg) (z.2.2.1 8 d.toNatClampNeg) (z.2.2.1 9 d.toNatClampNeg) (z.2.2.1 10 d.toNatClampNeg) (z.1 11) 0) → 1 ≤ (z.2.1 0).toInt)) ∨ ((0 : Int32) = 0 ∧ ((z.2.1 0) = z.2.1 0) ∧ ((z.2.1 1) = z.2.1 1) ∧ ((if y.toInt = 1 then yI (z.2.2.1 7 d.toNatClampNeg) (z.2.2.1 8 d.toNatClampNeg) (z.2.2.1 9 d.toNatClampNeg) (z.2.2.1 10 d.toNatClampNeg) (z.1 11) 0 else 24 * (z.2.2.1 6 d.toNatClampNeg).toInt - yI (z.2.2.1 7 d.toNatClampNeg) (z.2.2.1 8 d.toNatClampNeg) (z.2.2.1 9 d.toNatClampNeg) (z.2.2.1 10 d.toNatClampNeg) (z.1 11) 0) = 0)) from (Or.inr ⟨rfl, rfl, rfl, by split <;> omega⟩)), ⟨by rw [ht]; exact hP, hDa _⟩⟩, hS.F ht⟩) hS.2.2 dX7_gives_63
set_option maxHeartbeats 4000000 in
set_option maxRecDepth 100000 in
theorem c_X7_away (l : Launch) (dC : Nat → ClassId) (dI : Nat → Nat → Nat) (k : Nat → ClassId) (q : Nat → Nat) (z : ZS) (d : Int32) (y : Int32) (w : Int32) (sz : Nat) (hI : MInv z) : Met l yX7_away (wz yX7_away cX7_away 4 (some .long)) ({ frames := 5, cells := 0, slots := 0, locals := 114 }) (va_Pc [.ref (q 0), .int d, .int y, .int w] (zPre dC dI k (zTX k) (zM k q z) sz)) (va_Ql (fun (r : Int64) (u : (Nat → Int32) × (Nat → Int32) × (Nat → Int32) × (Nat → Int32) × (Nat → Int32) × (Nat → Int32) × (Nat → Int32) × Int32 × Int32 × Int32 × Int32 × (Nat → Int32) × (Nat → Int32) × (Nat → Int32) × Int64 × Int64) => (MD (FR (z.2.2.1 2) (z.2.2.1 3)) u.1 u.2.1 u.2.2.1 u.2.2.2.1 u.2.2.2.2.1 u.2.2.2.2.2.1 u.2.2.2.2.2.2.1)) (fun u t => zPost dC dI (va_A (zM k q z) sz) (zM k q (sJ (sJ (sA (sA (sA (sI (sI (sI (sI (sA (sA (sA (sA (sA (sA (sA z 4 u.1) 5 u.2.1) 6 u.2.2.1) 7 u.2.2.2.1) 8 u.2.2.2.2.1) 9 u.2.2.2.2.2.1) 10 u.2.2.2.2.2.2.1) 12 u.2.2.2.2.2.2.2.1) 13 u.2.2.2.2.2.2.2.2.1) 14 u.2.2.2.2.2.2.2.2.2.1) 15 u.2.2.2.2.2.2.2.2.2.2.1) 16 u.2.2.2.2.2.2.2.2.2.2.2.1) 17 u.2.2.2.2.2.2.2.2.2.2.2.2.1) 18 u.2.2.2.2.2.2.2.2.2.2.2.2.2.1) 0 u.2.2.2.2.2.2.2.2.2.2.2.2.2.2.1) 1 u.2.2.2.2.2.2.2.2.2.2.2.2.2.2.2)) t) (va_A (zM k q z) sz)) 0 0 (va_A (zM k q z) sz) := by
  refine Met.ofW (cc := cX7_away) (maxL := 4) (ret := (some .long)) (by decide) rfl ?_
  intro p e s m args below meth c s₁ B hml hv
  obtain ⟨rfl, hsz, hP, hK, hD0⟩ := hv
  have hx := B.exec
  have hb := B.bytes
  have hr := B.returns
  have hts := atoms_spec (ws := wz yX7_away cX7_away 4 (some .long)) B.pre
  have htb : ∀ w ∈ zw, w.before _ s = true := fun w h => hts w (List.mem_cons_of_mem _ h)
  have hown : s.vm.findClass RX7 = some m.cls := findClass_of_methodNamed B.named
  have hlocks := B.notSynchronized
  clear hts
  subst hsz
  have hD := hD0.self (sz := s.heap.size)
  generalize hAe : va_A (zM k q z) s.heap.size = A at hD ⊢
  have hA : ∀ q : Nat, s.heap.size ≤ q → A q := fun q h => by rw [← hAe]; exact Or.inr h
  have hDa : ∀ z9 : ZS, va_D A (zM k q z9) := fun z9 => va_D_adr (w := zM k q z) rfl hD
  have hl := lv_entry ([.ref (q 0), .int d, .int y, .int w]) (n := 4) (Nat.le_of_ble_eq_true rfl)
  rw [lg_entry_eq]
  generalize (lg_sl ([.ref (q 0), .int d, .int y, .int w]) ++ List.replicate (4 - (lg_sl ([.ref (q 0), .int d, .int y, .int w])).length) Slot.unset).toArray = ls at hl ⊢
  have hl : lv_has ls 4 [(0, .ref (q 0)), (1, .int d), (2, .int y), (3, .int w)] := hl
  refine z_start2 (A := A) (w := (zM k q z)) hP (fun H locs hP hS => ?_)
  clear hD0 hAe
  refine lv_iload_n hx hb dX7_away_0 rfl (lv_at hl 1 rfl) ?_
  refine zc0_i (w := (zM k q z)) (va_runS (As := [.int d]) (rest := []) ⟨hx, hb, hml, hown, htb⟩ (c_X7_isDesign l dC dI k d _ ) (va_cwS 1 htb (gzS wmt4_59 wmt4_60 wmt1_8 wmt4_61) rfl rfl rfl (by decide +kernel) ⟨Nat.le_of_ble_eq_true rfl, Nat.le_of_ble_eq_true rfl⟩) (zp0_S hK) rfl rfl hl.1 rfl (lv_room (Nat.le_of_ble_eq_true rfl)) dX7_away_1 ⟨Nat.le_of_ble_eq_true rfl, Nat.le_of_ble_eq_true rfl⟩) hP hS hA (fun r_1 u_2 H locs w_3 hP hS => ?_)
  rcases w_3 with ⟨e_5, h_4⟩ | ⟨e_7, h_6⟩
  · skip
    replace e_5 : r_1 = 1 := e_5
    subst e_5
    replace h_4 : 0 ≤ d.toInt ∧ d.toInt < 4 := h_4
    refine lv_if_eq (tgt := 25) hx hb dX7_away_4 (by decide) (fun c_8 => ?_) (fun c_8 => ?_)
    · skip
      exact absurd c_8 (by decide)
    · skip
      refine lv_iload_n hx hb dX7_away_7 rfl (lv_at hl 2 rfl) ?_
      refine lv_iconst (v := 0) hx hb dX7_away_8 (by decide) ?_
      refine lv_iconst (v := 1) hx hb dX7_away_9 (by decide) ?_
      refine zc0_i (w := (zM k q z)) (va_runS (As := [.int y, .int 0, .int 1]) (rest := []) ⟨hx, hb, hml, hown, htb⟩ (c_X7_in l dC dI k y 0 1 _ ) (va_cwS 3 htb (gzS wmt4_62 wmt4_63 wmt1_8 wmt4_64) rfl rfl rfl (by decide +kernel) ⟨Nat.le_of_ble_eq_true rfl, Nat.le_of_ble_eq_true rfl⟩) (zp0_S hK) rfl rfl hl.1 rfl (lv_room (Nat.le_of_ble_eq_true rfl)) dX7_away_10 ⟨Nat.le_of_ble_eq_true rfl, Nat.le_of_ble_eq_true rfl⟩) hP hS hA (fun r_9 u_10 H locs w_11 hP hS => ?_)
      rcases w_11 with ⟨e_13, h_12⟩ | ⟨e_15, h_14⟩
      · skip
        replace e_13 : r_9 = 1 := e_13
        subst e_13
        replace h_12 : (0 : Int32).toInt ≤ y.toInt ∧ y.toInt ≤ (1 : Int32).toInt := h_12
        rw [show (0 : Int32).toInt = 0 by decide, show (1 : Int32).toInt = 1 by decide] at h_12
        refine lv_if_eq (tgt := 25) hx hb dX7_away_13 (by decide) (fun c_16 => ?_) (fun c_16 => ?_)
        · skip
          exact absurd c_16 (by decide)
        · skip
          refine lv_iload_n hx hb dX7_away_16 rfl (lv_at hl 3 rfl) ?_
          refine lv_iconst (v := 0) hx hb dX7_away_17 (by decide) ?_
          refine lv_iconst (v := 1) hx hb dX7_away_18 (by decide) ?_
          refine zc0_i (w := (zM k q z)) (va_runS (As := [.int w, .int 0, .int 1]) (rest := []) ⟨hx, hb, hml, hown, htb⟩ (c_X7_in l dC dI k w 0 1 _ ) (va_cwS 3 htb (gzS wmt4_62 wmt4_63 wmt1_8 wmt4_64) rfl rfl rfl (by decide +kernel) ⟨Nat.le_of_ble_eq_true rfl, Nat.le_of_ble_eq_true rfl⟩) (zp0_S hK) rfl rfl hl.1 rfl (lv_room (Nat.le_of_ble_eq_true rfl)) dX7_away_19 ⟨Nat.le_of_ble_eq_true rfl, Nat.le_of_ble_eq_true rfl⟩) hP hS hA (fun r_17 u_18 H locs w_19 hP hS => ?_)
          rcases w_19 with ⟨e_21, h_20⟩ | ⟨e_23, h_22⟩
          · skip
            replace e_21 : r_17 = 1 := e_21
            subst e_21
            replace h_20 : (0 : Int32).toInt ≤ w.toInt ∧ w.toInt ≤ (1 : Int32).toInt := h_20
            rw [show (0 : Int32).toInt = 0 by decide, show (1 : Int32).toInt = 1 by decide] at h_20
            refine lv_if_ne (tgt := 31) hx hb dX7_away_22 (by decide) (fun c_24 => ?_) (fun c_24 => ?_)
            · skip
              refine lv_aload_n hx hb dX7_away_31 rfl (lv_at hl 0 rfl) ?_
              refine lv_iload_n hx hb dX7_away_32 rfl (lv_at hl 1 rfl) ?_
              refine zcA_i (w := (zM k q z)) (va_runV (As := [.int d]) (rest := []) ⟨hx, hb, hml, hown, htb⟩ (c_X7_faultOf l dC dI k q z d _ hI (show 0 ≤ d.toInt ∧ d.toInt < 4 by omega)) (cwV 1 htb (gzV wmt4_73 wmt4_75 wmp2_6 wmt1_8 wmt4_76) rfl rfl rfl (by decide +kernel) ⟨Nat.le_of_ble_eq_true rfl, Nat.le_of_ble_eq_true rfl⟩) (zpA_V (ci := 7) (q0 := 0) hK hP (hDa _) rfl rfl) rfl rfl hl.1 rfl (lv_room (Nat.le_of_ble_eq_true rfl)) dX7_away_33 ⟨Nat.le_of_ble_eq_true rfl, Nat.le_of_ble_eq_true rfl⟩) (hDa _) hS hA (fun r_25 u_26 H locs w_27 hP _ hS => ?_)
              obtain ⟨o4_28, o5_29, o6_30, o7_31, o8_32, o9_33, o10_34, o12_35, o13_36, o14_37, o15_38, o16_39, o17_40, o18_41⟩ := u_26
              have hP : va_P (dC, dI) vwCl (zM k q (sA (sA (sA (sI (sI (sI (sI (sA (sA (sA (sA (sA (sA (sA z 4 o4_28) 5 o5_29) 6 o6_30) 7 o7_31) 8 o8_32) 9 o9_33) 10 o10_34) 12 o12_35) 13 o13_36) 14 o14_37) 15 o15_38) 16 o16_39) 17 o17_40) 18 o18_41)) H := hP
              obtain ⟨h_42, h_43, h_44, h_45, h_46⟩ := w_27
              replace h_42 : MD (FR ((z.2.2.1 2)) ((z.2.2.1 3))) o4_28 o5_29 o6_30 o7_31 o8_32 o9_33 o10_34 := h_42
              replace h_43 : ¬ o4_28 d.toNatClampNeg = 0 := h_43
              replace h_44 : RK ((z.2.2.1 4)) ((z.2.2.1 5)) o4_28 o5_29 := h_44
              replace h_45 : R7 ((z.2.2.1 4)) ((z.2.2.1 6)) ((z.2.2.1 7)) ((z.2.2.1 8)) ((z.2.2.1 9)) ((z.2.2.1 10)) o6_30 o7_31 o8_32 o9_33 o10_34 := h_45
              replace h_46 : r_25 = o5_29 d.toNatClampNeg := h_46
              have hI : MInv (sA (sA (sA (sI (sI (sI (sI (sA (sA (sA (sA (sA (sA (sA z 4 o4_28) 5 o5_29) 6 o6_30) 7 o7_31) 8 o8_32) 9 o9_33) 10 o10_34) 12 o12_35) 13 o13_36) 14 o14_37) 15 o15_38) 16 o16_39) 17 o17_40) 18 o18_41) := ⟨hI.1, hI.2.1, hI.2.2.1, hI.2.2.2.1, hI.2.2.2.2.1, h_42⟩
              have hms := MD_at h_42 (show 0 ≤ d.toInt ∧ d.toInt < 4 by omega)
              have hrd := h_43
              have hrk := h_44
              obtain ⟨hw, hff, hfF⟩ := hms.2.2.2.2.2 h_43
              have hwb := hms.1
              have hr5 : r_25.toInt = (o5_29 d.toNatClampNeg).toInt := by rw [h_46]
              refine lv_iconst (v := (-1)) hx hb dX7_away_36 (by decide) ?_
              refine lv_icmp_ne (tgt := 57) hx hb dX7_away_37 (by decide) (fun c_48 => ?_) (fun c_48 => ?_)
              · skip
                have hc_48 := zb_ne rfl (show ((-1) : Int32).toInt = (-1) by decide) c_48
                refine lv_bipush (v := (-3)) hx hb dX7_away_57 (by decide) ?_
                refine zc0_l (w := (zM k q (sA (sA (sA (sI (sI (sI (sI (sA (sA (sA (sA (sA (sA (sA z 4 o4_28) 5 o5_29) 6 o6_30) 7 o7_31) 8 o8_32) 9 o9_33) 10 o10_34) 12 o12_35) 13 o13_36) 14 o14_37) 15 o15_38) 16 o16_39) 17 o17_40) 18 o18_41))) (va_runS (As := [.int (-3)]) (rest := []) ⟨hx, hb, hml, hown, htb⟩ (c_X7_told l dC dI k (-3) _ ) (va_cwS 1 htb (gzS wmt4_116 wmt4_117 wmt1_8 wmt4_118) rfl rfl rfl (by decide +kernel) ⟨Nat.le_of_ble_eq_true rfl, Nat.le_of_ble_eq_true rfl⟩) (zp0_S hK) rfl rfl hl.1 rfl (lv_room (Nat.le_of_ble_eq_true rfl)) dX7_away_59 ⟨Nat.le_of_ble_eq_true rfl, Nat.le_of_ble_eq_true rfl⟩) hP hS hA (fun r_49 u_50 H locs w_51 hP hS => ?_)
                exact W.lret (v := r_49) hx hb hr (fun t ht hW => ⟨⟨r_49, (o4_28, o5_29, o6_30, o7_31, o8_32, o9_33, o10_34, o12_35, o13_36, o14_37, o15_38, o16_39, o17_40, o18_41, z.2.1 0, z.2.1 1), rfl, (show (MD (FR (z.2.2.1 2) (z.2.2.1 3)) o4_28 o5_29 o6_30 o7_31 o8_32 o9_33 o10_34) from hI.2.2.2.2.2), ⟨by rw [ht]; exact hP, hDa _⟩⟩, hS.F ht⟩) hS.2.2 dX7_away_62
              · skip
                have hc_48 := zb_eq rfl (show ((-1) : Int32).toInt = (-1) by decide) c_48
                refine lv_aload_n hx hb dX7_away_40 rfl (lv_at hl 0 rfl) ?_
                refine lv_iload_n hx hb dX7_away_41 rfl (lv_at hl 1 rfl) ?_
                refine lv_iload_n hx hb dX7_away_42 rfl (lv_at hl 2 rfl) ?_
                refine zcA_i (w := (zM k q (sA (sA (sA (sI (sI (sI (sI (sA (sA (sA (sA (sA (sA (sA z 4 o4_28) 5 o5_29) 6 o6_30) 7 o7_31) 8 o8_32) 9 o9_33) 10 o10_34) 12 o12_35) 13 o13_36) 14 o14_37) 15 o15_38) 16 o16_39) 17 o17_40) 18 o18_41))) (va_runV (As := [.int d, .int y]) (rest := []) ⟨hx, hb, hml, hown, htb⟩ (c_X7_gives l dC dI k q (sA (sA (sA (sI (sI (sI (sI (sA (sA (sA (sA (sA (sA (sA z 4 o4_28) 5 o5_29) 6 o6_30) 7 o7_31) 8 o8_32) 9 o9_33) 10 o10_34) 12 o12_35) 13 o13_36) 14 o14_37) 15 o15_38) 16 o16_39) 17 o17_40) 18 o18_41) d y _ hI (by omega) hms) (cwV 2 htb (gzV wmt5_32 wmt5_34 wmp3_14 wmt1_8 wmt5_35) rfl rfl rfl (by decide +kernel) ⟨Nat.le_of_ble_eq_true rfl, Nat.le_of_ble_eq_true rfl⟩) (zpA_V (ci := 7) (q0 := 0) hK hP (hDa _) rfl rfl) rfl rfl hl.1 rfl (lv_room (Nat.le_of_ble_eq_true rfl)) dX7_away_43 ⟨Nat.le_of_ble_eq_true rfl, Nat.le_of_ble_eq_true rfl⟩) (hDa _) hS hA (fun r_52 u_53 H locs w_54 hP _ hS => ?_)
                obtain ⟨oa_55, ob_56⟩ := u_53
                have hP : va_P (dC, dI) vwCl (zM k q (sJ (sJ (sA (sA (sA (sI (sI (sI (sI (sA (sA (sA (sA (sA (sA (sA z 4 o4_28) 5 o5_29) 6 o6_30) 7 o7_31) 8 o8_32) 9 o9_33) 10 o10_34) 12 o12_35) 13 o13_36) 14 o14_37) 15 o15_38) 16 o16_39) 17 o17_40) 18 o18_41) 0 oa_55) 1 ob_56)) H := hP
                rcases w_54 with ⟨e_61, h_57, h_58, h_59, h_60⟩ | ⟨e_65, h_62, h_63, h_64⟩
                · skip
                  replace e_61 : r_52 = 1 := e_61
                  subst e_61
                  replace h_57 : 1 ≤ ob_56.toInt ∧ ob_56.toInt ≤ 731520 := h_57
                  replace h_58 : -731520 ≤ oa_55.toInt ∧ oa_55.toInt ≤ 731520 := h_58
                  replace h_59 : (o7_31 d.toNatClampNeg).toInt + (o8_32 d.toNatClampNeg).toInt + (o9_33 d.toNatClampNeg).toInt + (o10_34 d.toNatClampNeg).toInt ≤ (o6_30 d.toNatClampNeg).toInt → 0 ≤ oa_55.toInt ∧ oa_55.toInt ≤ 11520 ∧ ob_56.toInt ≤ 11520 := h_59
                  replace h_60 : 0 < (if y.toInt = 1 then yI (o7_31 d.toNatClampNeg) (o8_32 d.toNatClampNeg) (o9_33 d.toNatClampNeg) (o10_34 d.toNatClampNeg) ((z.1 11)) 1 else 24 * (o6_30 d.toNatClampNeg).toInt - yI (o7_31 d.toNatClampNeg) (o8_32 d.toNatClampNeg) (o9_33 d.toNatClampNeg) (o10_34 d.toNatClampNeg) ((z.1 11)) 1) → 0 < (if y.toInt = 1 then yI (o7_31 d.toNatClampNeg) (o8_32 d.toNatClampNeg) (o9_33 d.toNatClampNeg) (o10_34 d.toNatClampNeg) ((z.1 11)) 0 else 24 * (o6_30 d.toNatClampNeg).toInt - yI (o7_31 d.toNatClampNeg) (o8_32 d.toNatClampNeg) (o9_33 d.toNatClampNeg) (o10_34 d.toNatClampNeg) ((z.1 11)) 0) → 1 ≤ oa_55.toInt := h_60
                  refine lv_if_eq (tgt := 57) hx hb dX7_away_46 (by decide) (fun c_66 => ?_) (fun c_66 => ?_)
                  · skip
                    exact absurd c_66 (by decide)
                  · skip
                    refine lv_aload_n hx hb dX7_away_49 rfl (lv_at hl 0 rfl) ?_
                    refine lv_iload_n hx hb dX7_away_50 rfl (lv_at hl 3 rfl) ?_
                    refine zcA_l (w := (zM k q (sJ (sJ (sA (sA (sA (sI (sI (sI (sI (sA (sA (sA (sA (sA (sA (sA z 4 o4_28) 5 o5_29) 6 o6_30) 7 o7_31) 8 o8_32) 9 o9_33) 10 o10_34) 12 o12_35) 13 o13_36) 14 o14_37) 15 o15_38) 16 o16_39) 17 o17_40) 18 o18_41) 0 oa_55) 1 ob_56))) (va_runV (As := [.int w]) (rest := []) ⟨hx, hb, hml, hown, htb⟩ (c_X7_part l dC dI k q (sJ (sJ (sA (sA (sA (sI (sI (sI (sI (sA (sA (sA (sA (sA (sA (sA z 4 o4_28) 5 o5_29) 6 o6_30) 7 o7_31) 8 o8_32) 9 o9_33) 10 o10_34) 12 o12_35) 13 o13_36) 14 o14_37) 15 o15_38) 16 o16_39) 17 o17_40) 18 o18_41) 0 oa_55) 1 ob_56) w _ ) (cwV 1 htb (gzV wmt4_133 wmt4_135 wmp3_1 wmt1_8 wmt4_136) rfl rfl rfl (by decide +kernel) ⟨Nat.le_of_ble_eq_true rfl, Nat.le_of_ble_eq_true rfl⟩) (zpA_V (ci := 7) (q0 := 0) hK hP (hDa _) rfl rfl) rfl rfl hl.1 rfl (lv_room (Nat.le_of_ble_eq_true rfl)) dX7_away_51 ⟨Nat.le_of_ble_eq_true rfl, Nat.le_of_ble_eq_true rfl⟩) (hDa _) hS hA (fun r_67 u_68 H locs w_69 hP _ hS => ?_)
                    refine lv_goto (tgt := 62) hx hb dX7_away_54 (by decide) ?_
                    exact W.lret (v := r_67) hx hb hr (fun t ht hW => ⟨⟨r_67, (o4_28, o5_29, o6_30, o7_31, o8_32, o9_33, o10_34, o12_35, o13_36, o14_37, o15_38, o16_39, o17_40, o18_41, oa_55, ob_56), rfl, (show (MD (FR (z.2.2.1 2) (z.2.2.1 3)) o4_28 o5_29 o6_30 o7_31 o8_32 o9_33 o10_34) from hI.2.2.2.2.2), ⟨by rw [ht]; exact hP, hDa _⟩⟩, hS.F ht⟩) hS.2.2 dX7_away_62
                · skip
                  replace e_65 : r_52 = 0 := e_65
                  subst e_65
                  replace h_62 : oa_55 = (z.2.1 0) := h_62
                  replace h_63 : ob_56 = (z.2.1 1) := h_63
                  replace h_64 : (if y.toInt = 1 then yI (o7_31 d.toNatClampNeg) (o8_32 d.toNatClampNeg) (o9_33 d.toNatClampNeg) (o10_34 d.toNatClampNeg) ((z.1 11)) 0 else 24 * (o6_30 d.toNatClampNeg).toInt - yI (o7_31 d.toNatClampNeg) (o8_32 d.toNatClampNeg) (o9_33 d.toNatClampNeg) (o10_34 d.toNatClampNeg) ((z.1 11)) 0) = 0 := h_64
                  refine lv_if_eq (tgt := 57) hx hb dX7_away_46 (by decide) (fun c_70 => ?_) (fun c_70 => ?_)
                  · skip
                    refine lv_bipush (v := (-3)) hx hb dX7_away_57 (by decide) ?_
                    refine zc0_l (w := (zM k q (sJ (sJ (sA (sA (sA (sI (sI (sI (sI (sA (sA (sA (sA (sA (sA (sA z 4 o4_28) 5 o5_29) 6 o6_30) 7 o7_31) 8 o8_32) 9 o9_33) 10 o10_34) 12 o12_35) 13 o13_36) 14 o14_37) 15 o15_38) 16 o16_39) 17 o17_40) 18 o18_41) 0 oa_55) 1 ob_56))) (va_runS (As := [.int (-3)]) (rest := []) ⟨hx, hb, hml, hown, htb⟩ (c_X7_told l dC dI k (-3) _ ) (va_cwS 1 htb (gzS wmt4_116 wmt4_117 wmt1_8 wmt4_118) rfl rfl rfl (by decide +kernel) ⟨Nat.le_of_ble_eq_true rfl, Nat.le_of_ble_eq_true rfl⟩) (zp0_S hK) rfl rfl hl.1 rfl (lv_room (Nat.le_of_ble_eq_true rfl)) dX7_away_59 ⟨Nat.le_of_ble_eq_true rfl, Nat.le_of_ble_eq_true rfl⟩) hP hS hA (fun r_71 u_72 H locs w_73 hP hS => ?_)
                    exact W.lret (v := r_71) hx hb hr (fun t ht hW => ⟨⟨r_71, (o4_28, o5_29, o6_30, o7_31, o8_32, o9_33, o10_34, o12_35, o13_36, o14_37, o15_38, o16_39, o17_40, o18_41, oa_55, ob_56), rfl, (show (MD (FR (z.2.2.1 2) (z.2.2.1 3)) o4_28 o5_29 o6_30 o7_31 o8_32 o9_33 o10_34) from hI.2.2.2.2.2), ⟨by rw [ht]; exact hP, hDa _⟩⟩, hS.F ht⟩) hS.2.2 dX7_away_62
                  · skip
                    exact absurd (by decide) c_70
            · skip
              exact absurd c_24 (by decide)
          · skip
            replace e_23 : r_17 = 0 := e_23
            subst e_23
            replace h_22 : ¬ ((0 : Int32).toInt ≤ w.toInt ∧ w.toInt ≤ (1 : Int32).toInt) := h_22
            rw [show (0 : Int32).toInt = 0 by decide, show (1 : Int32).toInt = 1 by decide] at h_22
            refine lv_if_ne (tgt := 31) hx hb dX7_away_22 (by decide) (fun c_74 => ?_) (fun c_74 => ?_)
            · skip
              exact absurd c_74 (by decide)
            · skip
              refine lv_bipush (v := (-2)) hx hb dX7_away_25 (by decide) ?_
              refine zc0_l (w := (zM k q z)) (va_runS (As := [.int (-2)]) (rest := []) ⟨hx, hb, hml, hown, htb⟩ (c_X7_told l dC dI k (-2) _ ) (va_cwS 1 htb (gzS wmt4_116 wmt4_117 wmt1_8 wmt4_118) rfl rfl rfl (by decide +kernel) ⟨Nat.le_of_ble_eq_true rfl, Nat.le_of_ble_eq_true rfl⟩) (zp0_S hK) rfl rfl hl.1 rfl (lv_room (Nat.le_of_ble_eq_true rfl)) dX7_away_27 ⟨Nat.le_of_ble_eq_true rfl, Nat.le_of_ble_eq_true rfl⟩) hP hS hA (fun r_75 u_76 H locs w_77 hP hS => ?_)
              exact W.lret (v := r_75) hx hb hr (fun t ht hW => ⟨⟨r_75, (z.2.2.1 4, z.2.2.1 5, z.2.2.1 6, z.2.2.1 7, z.2.2.1 8, z.2.2.1 9, z.2.2.1 10, z.1 12, z.1 13, z.1 14, z.1 15, z.2.2.1 16, z.2.2.1 17, z.2.2.1 18, z.2.1 0, z.2.1 1), rfl, (show (MD (FR (z.2.2.1 2) (z.2.2.1 3)) (z.2.2.1 4) (z.2.2.1 5) (z.2.2.1 6) (z.2.2.1 7) (z.2.2.1 8) (z.2.2.1 9) (z.2.2.1 10)) from hI.2.2.2.2.2), ⟨by rw [ht]; exact hP, hDa _⟩⟩, hS.F ht⟩) hS.2.2 dX7_away_30
      · skip
        replace e_15 : r_9 = 0 := e_15
        subst e_15
        replace h_14 : ¬ ((0 : Int32).toInt ≤ y.toInt ∧ y.toInt ≤ (1 : Int32).toInt) := h_14
        rw [show (0 : Int32).toInt = 0 by decide, show (1 : Int32).toInt = 1 by decide] at h_14
        refine lv_if_eq (tgt := 25) hx hb dX7_away_13 (by decide) (fun c_78 => ?_) (fun c_78 => ?_)
        · skip
          refine lv_bipush (v := (-2)) hx hb dX7_away_25 (by decide) ?_
          refine zc0_l (w := (zM k q z)) (va_runS (As := [.int (-2)]) (rest := []) ⟨hx, hb, hml, hown, htb⟩ (c_X7_told l dC dI k (-2) _ ) (va_cwS 1 htb (gzS wmt4_116 wmt4_117 wmt1_8 wmt4_118) rfl rfl rfl (by decide +kernel) ⟨Nat.le_of_ble_eq_true rfl, Nat.le_of_ble_eq_true rfl⟩) (zp0_S hK) rfl rfl hl.1 rfl (lv_room (Nat.le_of_ble_eq_true rfl)) dX7_away_27 ⟨Nat.le_of_ble_eq_true rfl, Nat.le_of_ble_eq_true rfl⟩) hP hS hA (fun r_79 u_80 H locs w_81 hP hS => ?_)
          exact W.lret (v := r_79) hx hb hr (fun t ht hW => ⟨⟨r_79, (z.2.2.1 4, z.2.2.1 5, z.2.2.1 6, z.2.2.1 7, z.2.2.1 8, z.2.2.1 9, z.2.2.1 10, z.1 12, z.1 13, z.1 14, z.1 15, z.2.2.1 16, z.2.2.1 17, z.2.2.1 18, z.2.1 0, z.2.1 1), rfl, (show (MD (FR (z.2.2.1 2) (z.2.2.1 3)) (z.2.2.1 4) (z.2.2.1 5) (z.2.2.1 6) (z.2.2.1 7) (z.2.2.1 8) (z.2.2.1 9) (z.2.2.1 10)) from hI.2.2.2.2.2), ⟨by rw [ht]; exact hP, hDa _⟩⟩, hS.F ht⟩) hS.2.2 dX7_away_30
        · skip
          exact absurd (by decide) c_78
  · skip
    replace e_7 : r_1 = 0 := e_7
    subst e_7
    replace h_6 : ¬ (0 ≤ d.toInt ∧ d.toInt < 4) := h_6
    refine lv_if_eq (tgt := 25) hx hb dX7_away_4 (by decide) (fun c_82 => ?_) (fun c_82 => ?_)
    · skip
      refine lv_bipush (v := (-2)) hx hb dX7_away_25 (by decide) ?_
      refine zc0_l (w := (zM k q z)) (va_runS (As := [.int (-2)]) (rest := []) ⟨hx, hb, hml, hown, htb⟩ (c_X7_told l dC dI k (-2) _ ) (va_cwS 1 htb (gzS wmt4_116 wmt4_117 wmt1_8 wmt4_118) rfl rfl rfl (by decide +kernel) ⟨Nat.le_of_ble_eq_true rfl, Nat.le_of_ble_eq_true rfl⟩) (zp0_S hK) rfl rfl hl.1 rfl (lv_room (Nat.le_of_ble_eq_true rfl)) dX7_away_27 ⟨Nat.le_of_ble_eq_true rfl, Nat.le_of_ble_eq_true rfl⟩) hP hS hA (fun r_83 u_84 H locs w_85 hP hS => ?_)
      exact W.lret (v := r_83) hx hb hr (fun t ht hW => ⟨⟨r_83, (z.2.2.1 4, z.2.2.1 5, z.2.2.1 6, z.2.2.1 7, z.2.2.1 8, z.2.2.1 9, z.2.2.1 10, z.1 12, z.1 13, z.1 14, z.1 15, z.2.2.1 16, z.2.2.1 17, z.2.2.1 18, z.2.1 0, z.2.1 1), rfl, (show (MD (FR (z.2.2.1 2) (z.2.2.1 3)) (z.2.2.1 4) (z.2.2.1 5) (z.2.2.1 6) (z.2.2.1 7) (z.2.2.1 8) (z.2.2.1 9) (z.2.2.1 10)) from hI.2.2.2.2.2), ⟨by rw [ht]; exact hP, hDa _⟩⟩, hS.F ht⟩) hS.2.2 dX7_away_30
    · skip
      exact absurd (by decide) c_82
set_option maxHeartbeats 4000000 in
set_option maxRecDepth 100000 in
theorem c_X7_isExposed (l : Launch) (dC : Nat → ClassId) (dI : Nat → Nat → Nat) (k : Nat → ClassId) (q : Nat → Nat) (z : ZS) (d : Int32) (sz : Nat) (hI : MInv z) (hd : 0 ≤ d.toInt ∧ d.toInt < 4) (hms : MS (FR (z.2.2.1 2) (z.2.2.1 3) d.toNatClampNeg) (z.2.2.1 4 d.toNatClampNeg) (z.2.2.1 5 d.toNatClampNeg) (z.2.2.1 6 d.toNatClampNeg) (z.2.2.1 7 d.toNatClampNeg) (z.2.2.1 8 d.toNatClampNeg) (z.2.2.1 9 d.toNatClampNeg) (z.2.2.1 10 d.toNatClampNeg)) : Met l yX7_isExposed (wz yX7_isExposed cX7_isExposed 6 (some .boolean)) ({ frames := 1, cells := 0, slots := 0, locals := 23 }) (va_Pc [.ref (q 0), .int d] (zPre dC dI k (zTX k) (zM k q z) sz)) (va_Qi (fun (r : Int32) (u : Unit) => (r = 1 ∧ ((0 < yI (z.2.2.1 7 d.toNatClampNeg) (z.2.2.1 8 d.toNatClampNeg) (z.2.2.1 9 d.toNatClampNeg) (z.2.2.1 10 d.toNatClampNeg) (z.1 11) 1 ∧ 0 < yI (z.2.2.1 7 d.toNatClampNeg) (z.2.2.1 8 d.toNatClampNeg) (z.2.2.1 9 d.toNatClampNeg) (z.2.2.1 10 d.toNatClampNeg) (z.1 11) 0) ∧ (yI (z.2.2.1 7 d.toNatClampNeg) (z.2.2.1 8 d.toNatClampNeg) (z.2.2.1 9 d.toNatClampNeg) (z.2.2.1 10 d.toNatClampNeg) (z.1 11) 1 < 24 * (z.2.2.1 6 d.toNatClampNeg).toInt ∧ yI (z.2.2.1 7 d.toNatClampNeg) (z.2.2.1 8 d.toNatClampNeg) (z.2.2.1 9 d.toNatClampNeg) (z.2.2.1 10 d.toNatClampNeg) (z.1 11) 0 < 24 * (z.2.2.1 6 d.toNatClampNeg).toInt))) ∨ (r = 0 ∧ (1 ≤ 1))) (fun u t => zPost dC dI (va_A (zM k q z) sz) (zM k q z) t) (va_A (zM k q z) sz)) 0 0 (va_A (zM k q z) sz) := by
  refine Met.ofW (cc := cX7_isExposed) (maxL := 6) (ret := (some .boolean)) (by decide) rfl ?_
  intro p e s m args below meth c s₁ B hml hv
  obtain ⟨rfl, hsz, hP, hK, hD0⟩ := hv
  have hx := B.exec
  have hb := B.bytes
  have hr := B.returns
  have hts := atoms_spec (ws := wz yX7_isExposed cX7_isExposed 6 (some .boolean)) B.pre
  have htb : ∀ w ∈ zw, w.before _ s = true := fun w h => hts w (List.mem_cons_of_mem _ h)
  have hown : s.vm.findClass RX7 = some m.cls := findClass_of_methodNamed B.named
  have hlocks := B.notSynchronized
  clear hts
  subst hsz
  have hD := hD0.self (sz := s.heap.size)
  generalize hAe : va_A (zM k q z) s.heap.size = A at hD ⊢
  have hA : ∀ q : Nat, s.heap.size ≤ q → A q := fun q h => by rw [← hAe]; exact Or.inr h
  have hDa : ∀ z9 : ZS, va_D A (zM k q z9) := fun z9 => va_D_adr (w := zM k q z) rfl hD
  have hl := lv_entry ([.ref (q 0), .int d]) (n := 6) (Nat.le_of_ble_eq_true rfl)
  rw [lg_entry_eq]
  generalize (lg_sl ([.ref (q 0), .int d]) ++ List.replicate (6 - (lg_sl ([.ref (q 0), .int d])).length) Slot.unset).toArray = ls at hl ⊢
  have hl : lv_has ls 6 [(0, .ref (q 0)), (1, .int d)] := hl
  refine z_start2 (A := A) (w := (zM k q z)) hP (fun H locs hP hS => ?_)
  clear hD0 hAe
  refine lv_aload_n hx hb dX7_isExposed_0 rfl (lv_at hl 0 rfl) ?_
  refine lv_iload_n hx hb dX7_isExposed_1 rfl (lv_at hl 1 rfl) ?_
  refine lv_iconst (v := 1) hx hb dX7_isExposed_2 (by decide) ?_
  refine zcA_l (w := (zM k q z)) (va_runV (As := [.int d, .int 1]) (rest := []) ⟨hx, hb, hml, hown, htb⟩ (c_X7_yesIf l dC dI k q z d 1 _ hI (by omega) hms) (cwV 2 htb (gzV wmt4_120 wmt4_122 wmp2_14 wmt1_8 wmt4_123) rfl rfl rfl (by decide +kernel) ⟨Nat.le_of_ble_eq_true rfl, Nat.le_of_ble_eq_true rfl⟩) (zpA_V (ci := 7) (q0 := 0) hK hP (hDa _) rfl rfl) rfl rfl hl.1 rfl (lv_room (Nat.le_of_ble_eq_true rfl)) dX7_isExposed_3 ⟨Nat.le_of_ble_eq_true rfl, Nat.le_of_ble_eq_true rfl⟩) (hDa _) hS hA (fun r_1 u_2 H locs w_3 hP _ hS => ?_)
  obtain ⟨h_4, h_5, h_6⟩ := w_3
  replace h_4 : 0 ≤ r_1.toInt ∧ r_1.toInt ≤ 720000 := h_4
  replace h_5 : (((z.2.2.1 7) d.toNatClampNeg).toInt + ((z.2.2.1 8) d.toNatClampNeg).toInt + ((z.2.2.1 9) d.toNatClampNeg).toInt + ((z.2.2.1 10) d.toNatClampNeg).toInt ≤ ((z.2.2.1 6) d.toNatClampNeg).toInt → r_1.toInt ≤ 24 * ((z.2.2.1 6) d.toNatClampNeg).toInt) := h_5
  replace h_6 : r_1.toInt = yI ((z.2.2.1 7) d.toNatClampNeg) ((z.2.2.1 8) d.toNatClampNeg) ((z.2.2.1 9) d.toNatClampNeg) ((z.2.2.1 10) d.toNatClampNeg) ((z.1 11)) (1 : Int32) := h_6
  refine lv_lstore_n (lv' := [(2, .long r_1), (0, .ref (q 0)), (1, .int d)]) hx hb dX7_isExposed_6 rfl hl (by decide) rfl (fun ls hl => ?_)
  refine lv_aload_n hx hb dX7_isExposed_7 rfl (lv_at hl 1 rfl) ?_
  refine lv_iload_n hx hb dX7_isExposed_8 rfl (lv_at hl 2 rfl) ?_
  refine lv_iconst (v := 0) hx hb dX7_isExposed_9 (by decide) ?_
  refine zcA_l (w := (zM k q z)) (va_runV (As := [.int d, .int 0]) (rest := []) ⟨hx, hb, hml, hown, htb⟩ (c_X7_yesIf l dC dI k q z d 0 _ hI (by omega) hms) (cwV 2 htb (gzV wmt4_120 wmt4_122 wmp2_14 wmt1_8 wmt4_123) rfl rfl rfl (by decide +kernel) ⟨Nat.le_of_ble_eq_true rfl, Nat.le_of_ble_eq_true rfl⟩) (zpA_V (ci := 7) (q0 := 0) hK hP (hDa _) rfl rfl) rfl rfl hl.1 rfl (lv_room (Nat.le_of_ble_eq_true rfl)) dX7_isExposed_10 ⟨Nat.le_of_ble_eq_true rfl, Nat.le_of_ble_eq_true rfl⟩) (hDa _) hS hA (fun r_8 u_9 H locs w_10 hP _ hS => ?_)
  obtain ⟨h_11, h_12, h_13⟩ := w_10
  replace h_11 : 0 ≤ r_8.toInt ∧ r_8.toInt ≤ 720000 := h_11
  replace h_12 : (((z.2.2.1 7) d.toNatClampNeg).toInt + ((z.2.2.1 8) d.toNatClampNeg).toInt + ((z.2.2.1 9) d.toNatClampNeg).toInt + ((z.2.2.1 10) d.toNatClampNeg).toInt ≤ ((z.2.2.1 6) d.toNatClampNeg).toInt → r_8.toInt ≤ 24 * ((z.2.2.1 6) d.toNatClampNeg).toInt) := h_12
  replace h_13 : r_8.toInt = yI ((z.2.2.1 7) d.toNatClampNeg) ((z.2.2.1 8) d.toNatClampNeg) ((z.2.2.1 9) d.toNatClampNeg) ((z.2.2.1 10) d.toNatClampNeg) ((z.1 11)) (0 : Int32) := h_13
  refine lv_lstore (lv' := [(4, .long r_8), (2, .long r_1), (0, .ref (q 0)), (1, .int d)]) hx hb dX7_isExposed_13 hl (by decide) rfl (fun ls hl => ?_)
  refine lv_lload_n hx hb dX7_isExposed_15 rfl (lv_at hl 1 rfl) ?_
  refine lv_lconst (v := 0) hx hb dX7_isExposed_16 (by decide) ?_
  refine z_lcmp hx hb dX7_isExposed_17 ?_
  refine lv_if_le (tgt := 53) hx hb dX7_isExposed_18 (by decide) (fun c_15 => ?_) (fun c_15 => ?_)
  · skip
    have hc_15 := zl_le rfl (show (0 : Int64).toInt = 0 by decide) c_15
    refine lv_iconst (v := 0) hx hb dX7_isExposed_53 (by decide) ?_
    exact W.zret (v := 0) (ty := .boolean) hx hb hr rfl (fun t ht hW => ⟨⟨0, (), rfl, (Or.inr ⟨rfl, by decide⟩), ⟨by rw [ht]; exact hP, hDa _⟩⟩, hS.F ht⟩) hS.2.2 dX7_isExposed_54
  · skip
    have hc_15 := zl_nle rfl (show (0 : Int64).toInt = 0 by decide) c_15
    refine lv_lload hx hb dX7_isExposed_21 (lv_at hl 0 rfl) ?_
    refine lv_lconst (v := 0) hx hb dX7_isExposed_23 (by decide) ?_
    refine z_lcmp hx hb dX7_isExposed_24 ?_
    refine lv_if_le (tgt := 53) hx hb dX7_isExposed_25 (by decide) (fun c_16 => ?_) (fun c_16 => ?_)
    · skip
      have hc_16 := zl_le rfl (show (0 : Int64).toInt = 0 by decide) c_16
      refine lv_iconst (v := 0) hx hb dX7_isExposed_53 (by decide) ?_
      exact W.zret (v := 0) (ty := .boolean) hx hb hr rfl (fun t ht hW => ⟨⟨0, (), rfl, (Or.inr ⟨rfl, by decide⟩), ⟨by rw [ht]; exact hP, hDa _⟩⟩, hS.F ht⟩) hS.2.2 dX7_isExposed_54
    · skip
      have hc_16 := zl_nle rfl (show (0 : Int64).toInt = 0 by decide) c_16
      refine lv_lload_n hx hb dX7_isExposed_28 rfl (lv_at hl 1 rfl) ?_
      refine lv_aload_n hx hb dX7_isExposed_29 rfl (lv_at hl 2 rfl) ?_
      refine lv_iload_n hx hb dX7_isExposed_30 rfl (lv_at hl 3 rfl) ?_
      refine zcA_l (w := (zM k q z)) (va_runV (As := [.int d]) (rest := [.long r_1]) ⟨hx, hb, hml, hown, htb⟩ (c_X7_base l dC dI k q z d _ (by omega) hms) (cwV 1 htb (gzV wmt4_125 wmt4_127 wmp2_15 wmt1_8 wmt4_128) rfl rfl rfl (by decide +kernel) ⟨Nat.le_of_ble_eq_true rfl, Nat.le_of_ble_eq_true rfl⟩) (zpA_V (ci := 7) (q0 := 0) hK hP (hDa _) rfl rfl) rfl rfl hl.1 rfl (lv_room (Nat.le_of_ble_eq_true rfl)) dX7_isExposed_31 ⟨Nat.le_of_ble_eq_true rfl, Nat.le_of_ble_eq_true rfl⟩) (hDa _) hS hA (fun r_17 u_18 H locs w_19 hP _ hS => ?_)
      have h_20 := w_19
      replace h_20 : r_17.toInt = 24 * ((z.2.2.1 6) d.toNatClampNeg).toInt := h_20
      refine z_lcmp hx hb dX7_isExposed_34 ?_
      refine lv_if_ge (tgt := 53) hx hb dX7_isExposed_35 (by decide) (fun c_22 => ?_) (fun c_22 => ?_)
      · skip
        have hc_22 := zl_ge rfl rfl c_22
        refine lv_iconst (v := 0) hx hb dX7_isExposed_53 (by decide) ?_
        exact W.zret (v := 0) (ty := .boolean) hx hb hr rfl (fun t ht hW => ⟨⟨0, (), rfl, (Or.inr ⟨rfl, by decide⟩), ⟨by rw [ht]; exact hP, hDa _⟩⟩, hS.F ht⟩) hS.2.2 dX7_isExposed_54
      · skip
        have hc_22 := zl_nge rfl rfl c_22
        refine lv_lload hx hb dX7_isExposed_38 (lv_at hl 0 rfl) ?_
        refine lv_aload_n hx hb dX7_isExposed_40 rfl (lv_at hl 2 rfl) ?_
        refine lv_iload_n hx hb dX7_isExposed_41 rfl (lv_at hl 3 rfl) ?_
        refine zcA_l (w := (zM k q z)) (va_runV (As := [.int d]) (rest := [.long r_8]) ⟨hx, hb, hml, hown, htb⟩ (c_X7_base l dC dI k q z d _ (by omega) hms) (cwV 1 htb (gzV wmt4_125 wmt4_127 wmp2_15 wmt1_8 wmt4_128) rfl rfl rfl (by decide +kernel) ⟨Nat.le_of_ble_eq_true rfl, Nat.le_of_ble_eq_true rfl⟩) (zpA_V (ci := 7) (q0 := 0) hK hP (hDa _) rfl rfl) rfl rfl hl.1 rfl (lv_room (Nat.le_of_ble_eq_true rfl)) dX7_isExposed_42 ⟨Nat.le_of_ble_eq_true rfl, Nat.le_of_ble_eq_true rfl⟩) (hDa _) hS hA (fun r_23 u_24 H locs w_25 hP _ hS => ?_)
        have h_26 := w_25
        replace h_26 : r_23.toInt = 24 * ((z.2.2.1 6) d.toNatClampNeg).toInt := h_26
        refine z_lcmp hx hb dX7_isExposed_45 ?_
        refine lv_if_ge (tgt := 53) hx hb dX7_isExposed_46 (by decide) (fun c_28 => ?_) (fun c_28 => ?_)
        · skip
          have hc_28 := zl_ge rfl rfl c_28
          refine lv_iconst (v := 0) hx hb dX7_isExposed_53 (by decide) ?_
          exact W.zret (v := 0) (ty := .boolean) hx hb hr rfl (fun t ht hW => ⟨⟨0, (), rfl, (Or.inr ⟨rfl, by decide⟩), ⟨by rw [ht]; exact hP, hDa _⟩⟩, hS.F ht⟩) hS.2.2 dX7_isExposed_54
        · skip
          have hc_28 := zl_nge rfl rfl c_28
          refine lv_iconst (v := 1) hx hb dX7_isExposed_49 (by decide) ?_
          refine lv_goto (tgt := 54) hx hb dX7_isExposed_50 (by decide) ?_
          exact W.zret (v := 1) (ty := .boolean) hx hb hr rfl (fun t ht hW => ⟨⟨1, (), rfl, (Or.inl ⟨rfl, by omega⟩), ⟨by rw [ht]; exact hP, hDa _⟩⟩, hS.F ht⟩) hS.2.2 dX7_isExposed_54
set_option maxHeartbeats 4000000 in
set_option maxRecDepth 100000 in
theorem c_X7_givenOf (l : Launch) (dC : Nat → ClassId) (dI : Nat → Nat → Nat) (k : Nat → ClassId) (q : Nat → Nat) (z : ZS) (pe : Int32) (sz : Nat) (hI : MInv z) : Met l yX7_givenOf (wz yX7_givenOf cX7_givenOf 11 (some .int)) ({ frames := 5, cells := 0, slots := 0, locals := 114 }) (va_Pc [.ref (q 0), .int pe] (zPre dC dI k (zTX k) (zM k q z) sz)) (va_Qi (fun (r : Int32) (u : (Nat → Int32) × (Nat → Int32) × (Nat → Int32) × (Nat → Int32) × (Nat → Int32) × (Nat → Int32) × (Nat → Int32) × Int32 × Int32 × Int32 × Int32 × (Nat → Int32) × (Nat → Int32) × (Nat → Int32) × Int64 × Int64 × Int32 × (Nat → Int32)) => (MD (FR (z.2.2.1 2) (z.2.2.1 3)) u.1 u.2.1 u.2.2.1 u.2.2.2.1 u.2.2.2.2.1 u.2.2.2.2.2.1 u.2.2.2.2.2.2.1) ∧ (r.toInt = 0 → (0 ≤ u.2.2.2.2.2.2.2.2.2.2.2.2.2.2.1.toInt ∧ u.2.2.2.2.2.2.2.2.2.2.2.2.2.2.1.toInt ≤ 1000000000) ∧ (1 ≤ u.2.2.2.2.2.2.2.2.2.2.2.2.2.2.2.1.toInt ∧ u.2.2.2.2.2.2.2.2.2.2.2.2.2.2.2.1.toInt ≤ 1000000000)) ∧ (RK (z.2.2.1 4) (z.2.2.1 5) u.1 u.2.1)) (fun u t => zPost dC dI (va_A (zM k q z) sz) (zM k q (sA (sI (sJ (sJ (sA (sA (sA (sI (sI (sI (sI (sA (sA (sA (sA (sA (sA (sA z 4 u.1) 5 u.2.1) 6 u.2.2.1) 7 u.2.2.2.1) 8 u.2.2.2.2.1) 9 u.2.2.2.2.2.1) 10 u.2.2.2.2.2.2.1) 12 u.2.2.2.2.2.2.2.1) 13 u.2.2.2.2.2.2.2.2.1) 14 u.2.2.2.2.2.2.2.2.2.1) 15 u.2.2.2.2.2.2.2.2.2.2.1) 16 u.2.2.2.2.2.2.2.2.2.2.2.1) 17 u.2.2.2.2.2.2.2.2.2.2.2.2.1) 18 u.2.2.2.2.2.2.2.2.2.2.2.2.2.1) 0 u.2.2.2.2.2.2.2.2.2.2.2.2.2.2.1) 1 u.2.2.2.2.2.2.2.2.2.2.2.2.2.2.2.1) 33 u.2.2.2.2.2.2.2.2.2.2.2.2.2.2.2.2.1) 34 u.2.2.2.2.2.2.2.2.2.2.2.2.2.2.2.2.2)) t) (va_A (zM k q z) sz)) 0 0 (va_A (zM k q z) sz) := by
  refine Met.ofW (cc := cX7_givenOf) (maxL := 11) (ret := (some .int)) (by decide) rfl ?_
  intro p e s m args below meth c s₁ B hml hv
  obtain ⟨rfl, hsz, hP, hK, hD0⟩ := hv
  have hx := B.exec
  have hb := B.bytes
  have hr := B.returns
  have hts := atoms_spec (ws := wz yX7_givenOf cX7_givenOf 11 (some .int)) B.pre
  have htb : ∀ w ∈ zw, w.before _ s = true := fun w h => hts w (List.mem_cons_of_mem _ h)
  have hown : s.vm.findClass RX7 = some m.cls := findClass_of_methodNamed B.named
  have hlocks := B.notSynchronized
  clear hts
  subst hsz
  have hD := hD0.self (sz := s.heap.size)
  generalize hAe : va_A (zM k q z) s.heap.size = A at hD ⊢
  have hA : ∀ q : Nat, s.heap.size ≤ q → A q := fun q h => by rw [← hAe]; exact Or.inr h
  have hDa : ∀ z9 : ZS, va_D A (zM k q z9) := fun z9 => va_D_adr (w := zM k q z) rfl hD
  have hl := lv_entry ([.ref (q 0), .int pe]) (n := 11) (Nat.le_of_ble_eq_true rfl)
  rw [lg_entry_eq]
  generalize (lg_sl ([.ref (q 0), .int pe]) ++ List.replicate (11 - (lg_sl ([.ref (q 0), .int pe])).length) Slot.unset).toArray = ls at hl ⊢
  have hl : lv_has ls 11 [(0, .ref (q 0)), (1, .int pe)] := hl
  refine z_start2 (A := A) (w := (zM k q z)) hP (fun H locs hP hS => ?_)
  clear hD0 hAe
  have ha0 := hI.1.1.1
  have ha1 := hI.1.1.2.1
  refine lv_iconst (v := 0) hx hb dX7_givenOf_0 (by decide) ?_
  refine lv_istore_n (lv' := [(2, .int 0), (0, .ref (q 0)), (1, .int pe)]) hx hb dX7_givenOf_1 rfl hl (by decide) rfl (fun ls hl => ?_)
  refine lv_iconst (v := 0) hx hb dX7_givenOf_2 (by decide) ?_
  refine lv_istore_n (lv' := [(3, .int 0), (2, .int 0), (0, .ref (q 0)), (1, .int pe)]) hx hb dX7_givenOf_3 rfl hl (by decide) rfl (fun ls hl => ?_)
  refine lv_aload_n hx hb dX7_givenOf_4 rfl (lv_at hl 2 rfl) ?_
  refine lv_iconst (v := 0) hx hb dX7_givenOf_5 (by decide) ?_
  refine va_put (D := (dC, dI)) (ci := 7) (v := .int 0) (ty := .boolean) (C := RX7) (T := TX7) (N := 42) hx hb htb inw7 tyX7 tyX7_ok nmX7 hown hK.1 hP (hDa _) hS 0 rfl rfl 33 (by decide) (htb _ wmt3_200) (fun _ h9 => h9) rfl (by decide +kernel) rfl rfl (Nat.le_of_ble_eq_true rfl) dX7_givenOf_6 (fun H locs hP _ hS => ?_)
  have hP : va_P (dC, dI) vwCl (zM k q (sI z 33 0)) H := hP
  refine lv_lconst (v := 1) hx hb dX7_givenOf_9 (by decide) ?_
  refine lv_lstore (lv' := [(4, .long 1), (3, .int 0), (2, .int 0), (0, .ref (q 0)), (1, .int pe)]) hx hb dX7_givenOf_10 hl (by decide) rfl (fun ls hl => ?_)
  refine lv_lconst (v := 1) hx hb dX7_givenOf_12 (by decide) ?_
  refine lv_lstore (lv' := [(6, .long 1), (4, .long 1), (3, .int 0), (2, .int 0), (0, .ref (q 0)), (1, .int pe)]) hx hb dX7_givenOf_13 hl (by decide) rfl (fun ls hl => ?_)
  refine lv_iconst (v := 0) hx hb dX7_givenOf_15 (by decide) ?_
  refine lv_istore (lv' := [(8, .int 0), (6, .long 1), (4, .long 1), (3, .int 0), (2, .int 0), (0, .ref (q 0)), (1, .int pe)]) hx hb dX7_givenOf_16 hl (by decide) rfl (fun ls hl => ?_)
  obtain ⟨fl, efl⟩ : ∃ x : Int32, 0 = x := ⟨_, rfl⟩
  obtain ⟨dd, edd⟩ : ∃ x : Int32, 0 = x := ⟨_, rfl⟩
  obtain ⟨co4, eco4⟩ : ∃ x : Nat → Int32, z.2.2.1 4 = x := ⟨_, rfl⟩
  obtain ⟨co5, eco5⟩ : ∃ x : Nat → Int32, z.2.2.1 5 = x := ⟨_, rfl⟩
  obtain ⟨co6, eco6⟩ : ∃ x : Nat → Int32, z.2.2.1 6 = x := ⟨_, rfl⟩
  obtain ⟨co7, eco7⟩ : ∃ x : Nat → Int32, z.2.2.1 7 = x := ⟨_, rfl⟩
  obtain ⟨co8, eco8⟩ : ∃ x : Nat → Int32, z.2.2.1 8 = x := ⟨_, rfl⟩
  obtain ⟨co9, eco9⟩ : ∃ x : Nat → Int32, z.2.2.1 9 = x := ⟨_, rfl⟩
  obtain ⟨co10, eco10⟩ : ∃ x : Nat → Int32, z.2.2.1 10 = x := ⟨_, rfl⟩
  obtain ⟨co12, eco12⟩ : ∃ x : Int32, z.1 12 = x := ⟨_, rfl⟩
  obtain ⟨co13, eco13⟩ : ∃ x : Int32, z.1 13 = x := ⟨_, rfl⟩
  obtain ⟨co14, eco14⟩ : ∃ x : Int32, z.1 14 = x := ⟨_, rfl⟩
  obtain ⟨co15, eco15⟩ : ∃ x : Int32, z.1 15 = x := ⟨_, rfl⟩
  obtain ⟨co16, eco16⟩ : ∃ x : Nat → Int32, z.2.2.1 16 = x := ⟨_, rfl⟩
  obtain ⟨co17, eco17⟩ : ∃ x : Nat → Int32, z.2.2.1 17 = x := ⟨_, rfl⟩
  obtain ⟨co18, eco18⟩ : ∃ x : Nat → Int32, z.2.2.1 18 = x := ⟨_, rfl⟩
  have hv18 : (0 ≤ dd.toInt ∧ dd.toInt ≤ 4) ∧ (MInv (sA (sA (sA (sI (sI (sI (sI (sA (sA (sA (sA (sA (sA (sA (sI z 33 0) 4 co4) 5 co5) 6 co6) 7 co7) 8 co8) 9 co9) 10 co10) 12 co12) 13 co13) 14 co14) 15 co15) 16 co16) 17 co17) 18 co18)) ∧ (RK (z.2.2.1 4) (z.2.2.1 5) co4 co5) ∧ (fl.toInt = 0 → GI z pe co4 co5 dd.toInt 0) := by subst efl edd eco4 eco5 eco6 eco7 eco8 eco9 eco10 eco12 eco13 eco14 eco15 eco16 eco17 eco18; exact ⟨(by decide), hI, RK_refl, (fun _ => GI_0 hI)⟩
  replace hl : lv_has ls 11 [(8, .int dd), (6, .long 1), (4, .long 1), (3, .int 0), (2, .int fl), (0, .ref (q 0)), (1, .int pe)] := by subst efl edd eco4 eco5 eco6 eco7 eco8 eco9 eco10 eco12 eco13 eco14 eco15 eco16 eco17 eco18; exact hl
  replace hP : va_P (dC, dI) vwCl (zM k q (sA (sA (sA (sI (sI (sI (sI (sA (sA (sA (sA (sA (sA (sA (sI z 33 0) 4 co4) 5 co5) 6 co6) 7 co7) 8 co8) 9 co9) 10 co10) 12 co12) 13 co13) 14 co14) 15 co15) 16 co16) 17 co17) 18 co18)) H := by subst eco4 eco5 eco6 eco7 eco8 eco9 eco10 eco12 eco13 eco14 eco15 eco16 eco17 eco18; exact hP
  clear efl edd eco4 eco5 eco6 eco7 eco8 eco9 eco10 eco12 eco13 eco14 eco15 eco16 eco17 eco18
  obtain ⟨mm18, hm18⟩ : ∃ mm : Nat, mm = (4 - dd.toInt).toNat := ⟨_, rfl⟩
  refine z_cut2 hP hS hl ?_
  clear hl hP
  intro H locs ls hP hS hl
  induction mm18 using Nat.strongRecOn generalizing fl dd co4 co5 co6 co7 co8 co9 co10 co12 co13 co14 co15 co16 co17 co18 H locs ls with
  | _ mm18 ih18 =>
    obtain ⟨hdd, hI1, hrk1, hgi1⟩ := hv18
    have hI := hI1
    refine lv_iload hx hb dX7_givenOf_18 (lv_at hl 0 rfl) ?_
    refine lv_iconst (v := 4) hx hb dX7_givenOf_20 (by decide) ?_
    refine lv_icmp_ge (tgt := 112) hx hb dX7_givenOf_21 (by decide) (fun c_1 => ?_) (fun c_1 => ?_)
    · skip
      have hc_1 := zb_le (show (4 : Int32).toInt = 4 by decide) rfl c_1
      refine lv_iload_n hx hb dX7_givenOf_112 rfl (lv_at hl 4 rfl) ?_
      refine lv_if_eq (tgt := 119) hx hb dX7_givenOf_113 (by decide) (fun c_2 => ?_) (fun c_2 => ?_)
      · skip
        have hc_2 := zb_eq rfl (show (0 : Int32).toInt = 0 by decide) c_2
        have hgi0 := hgi1 (by omega)
        refine lv_iconst (v := 0) hx hb dX7_givenOf_119 (by decide) ?_
        refine lv_istore (lv' := [(8, .int 0), (6, .long 1), (4, .long 1), (3, .int 0), (2, .int fl), (0, .ref (q 0)), (1, .int pe)]) hx hb dX7_givenOf_120 hl (by decide) rfl (fun ls hl => ?_)
        obtain ⟨jc, ejc⟩ : ∃ x : Int32, 0 = x := ⟨_, rfl⟩
        obtain ⟨ct, ect⟩ : ∃ x : Nat → Int32, z.2.2.1 34 = x := ⟨_, rfl⟩
        have hv122 : (0 ≤ jc.toInt ∧ jc.toInt ≤ 4) := by subst ejc ect; exact (by decide)
        replace hl : lv_has ls 11 [(8, .int jc), (6, .long 1), (4, .long 1), (3, .int 0), (2, .int fl), (0, .ref (q 0)), (1, .int pe)] := by subst ejc ect; exact hl
        replace hP : va_P (dC, dI) vwCl (zM k q (sA (sA (sA (sA (sI (sI (sI (sI (sA (sA (sA (sA (sA (sA (sA (sI z 33 0) 4 co4) 5 co5) 6 co6) 7 co7) 8 co8) 9 co9) 10 co10) 12 co12) 13 co13) 14 co14) 15 co15) 16 co16) 17 co17) 18 co18) 34 ct)) H := by subst ect; exact hP
        clear ejc ect
        obtain ⟨mm122, hm122⟩ : ∃ mm : Nat, mm = (4 - jc.toInt).toNat := ⟨_, rfl⟩
        refine z_cut2 hP hS hl ?_
        clear hl hP
        intro H locs ls hP hS hl
        induction mm122 using Nat.strongRecOn generalizing jc ct H locs ls with
        | _ mm122 ih122 =>
          have hjc := hv122
          refine lv_iload hx hb dX7_givenOf_122 (lv_at hl 0 rfl) ?_
          refine lv_iconst (v := 4) hx hb dX7_givenOf_124 (by decide) ?_
          refine lv_icmp_ge (tgt := 142) hx hb dX7_givenOf_125 (by decide) (fun c_3 => ?_) (fun c_3 => ?_)
          · skip
            have hc_3 := zb_le (show (4 : Int32).toInt = 4 by decide) rfl c_3
            refine lv_iconst (v := 0) hx hb dX7_givenOf_142 (by decide) ?_
            refine lv_istore (lv' := [(8, .int 0), (6, .long 1), (4, .long 1), (3, .int 0), (2, .int fl), (0, .ref (q 0)), (1, .int pe)]) hx hb dX7_givenOf_143 hl (by decide) rfl (fun ls hl => ?_)
            obtain ⟨fu, efu⟩ : ∃ x : Int32, 0 = x := ⟨_, rfl⟩
            obtain ⟨tp, etp⟩ : ∃ x : Int64, 1 = x := ⟨_, rfl⟩
            obtain ⟨bt, ebt⟩ : ∃ x : Int64, 1 = x := ⟨_, rfl⟩
            obtain ⟨ja, eja⟩ : ∃ x : Int32, 0 = x := ⟨_, rfl⟩
            obtain ⟨ja0, eja0⟩ : ∃ x : Int64, z.2.1 0 = x := ⟨_, rfl⟩
            obtain ⟨jb0, ejb0⟩ : ∃ x : Int64, z.2.1 1 = x := ⟨_, rfl⟩
            obtain ⟨nn0, enn0⟩ : ∃ x : Int32, 0 = x := ⟨_, rfl⟩
            obtain ⟨ct2, ect2⟩ : ∃ x : Nat → Int32, ct = x := ⟨_, rfl⟩
            have hv145 : (0 ≤ ja.toInt ∧ ja.toInt ≤ 120) ∧ (0 ≤ tp.toInt ∧ 1 ≤ bt.toInt) ∧ (fu.toInt = 0 → tp.toInt ≤ 1000000000 ∧ bt.toInt ≤ 1000000000) := by subst efu etp ebt eja eja0 ejb0 enn0 ect2; exact ⟨(by decide), (by decide), (fun _ => by decide)⟩
            replace hl : lv_has ls 11 [(8, .int ja), (6, .long bt), (4, .long tp), (3, .int fu), (2, .int fl), (0, .ref (q 0)), (1, .int pe)] := by subst efu etp ebt eja eja0 ejb0 enn0 ect2; exact hl
            replace hP : va_P (dC, dI) vwCl (zM k q (sA (sI (sJ (sJ (sA (sA (sA (sI (sI (sI (sI (sA (sA (sA (sA (sA (sA (sA z 4 co4) 5 co5) 6 co6) 7 co7) 8 co8) 9 co9) 10 co10) 12 co12) 13 co13) 14 co14) 15 co15) 16 co16) 17 co17) 18 co18) 0 ja0) 1 jb0) 33 nn0) 34 ct2)) H := by subst eja0 ejb0 enn0 ect2; exact hP
            clear efu etp ebt eja eja0 ejb0 enn0 ect2
            obtain ⟨mm145, hm145⟩ : ∃ mm : Nat, mm = (120 - ja.toInt).toNat := ⟨_, rfl⟩
            refine z_cut2 hP hS hl ?_
            clear hl hP
            intro H locs ls hP hS hl
            induction mm145 using Nat.strongRecOn generalizing fu tp bt ja ja0 jb0 nn0 ct2 H locs ls with
            | _ mm145 ih145 =>
              obtain ⟨hja, htp, hfu⟩ := hv145
              refine lv_iload hx hb dX7_givenOf_145 (lv_at hl 0 rfl) ?_
              refine lv_aload_n hx hb dX7_givenOf_147 rfl (lv_at hl 5 rfl) ?_
              refine va_get (D := (dC, dI)) (ci := 7) (v := .int (z.1 22)) (C := RX7) (T := TX7) (N := 42) hx hb htb inw7 hown hK.1 hP 0 rfl rfl 22 (by decide) (htb _ wmt3_189) (fun _ h9 => h9) rfl dX7_givenOf_148 ?_
              refine lv_topi (fun x_4 ex_4 => ?_)
              have hx_4 : x_4.toInt = (z.1 22).toInt := by rw [ex_4]
              refine lv_icmp_ge (tgt := 310) hx hb dX7_givenOf_151 (by decide) (fun c_5 => ?_) (fun c_5 => ?_)
              · skip
                have hc_5 := zb_le rfl rfl c_5
                refine lv_aload_n hx hb dX7_givenOf_310 rfl (lv_at hl 5 rfl) ?_
                refine va_get (D := (dC, dI)) (ci := 7) (v := .int nn0) (C := RX7) (T := TX7) (N := 42) hx hb htb inw7 hown hK.1 hP 0 rfl rfl 33 (by decide) (htb _ wmt3_200) (fun _ h9 => h9) rfl dX7_givenOf_311 ?_
                refine lv_if_eq (tgt := 320) hx hb dX7_givenOf_314 (by decide) (fun c_6 => ?_) (fun c_6 => ?_)
                · skip
                  have hc_6 := zb_eq rfl (show (0 : Int32).toInt = 0 by decide) c_6
                  refine lv_aload_n hx hb dX7_givenOf_320 rfl (lv_at hl 5 rfl) ?_
                  refine lv_lload hx hb dX7_givenOf_321 (lv_at hl 2 rfl) ?_
                  refine va_put (D := (dC, dI)) (ci := 7) (v := .long tp) (ty := .long) (C := RX7) (T := TX7) (N := 42) hx hb htb inw7 tyX7 tyX7_ok nmX7 hown hK.1 hP (hDa _) hS 0 rfl rfl 0 (by decide) (htb _ wmt3_167) (fun _ h9 => h9) rfl (by decide +kernel) rfl rfl (Nat.le_of_ble_eq_true rfl) dX7_givenOf_323 (fun H locs hP _ hS => ?_)
                  have hP : va_P (dC, dI) vwCl (zM k q (sJ (sA (sI (sJ (sA (sA (sA (sI (sI (sI (sI (sA (sA (sA (sA (sA (sA (sA z 4 co4) 5 co5) 6 co6) 7 co7) 8 co8) 9 co9) 10 co10) 12 co12) 13 co13) 14 co14) 15 co15) 16 co16) 17 co17) 18 co18) 1 jb0) 33 nn0) 34 ct2) 0 tp)) H := hP
                  refine lv_aload_n hx hb dX7_givenOf_326 rfl (lv_at hl 5 rfl) ?_
                  refine lv_lload hx hb dX7_givenOf_327 (lv_at hl 1 rfl) ?_
                  refine va_put (D := (dC, dI)) (ci := 7) (v := .long bt) (ty := .long) (C := RX7) (T := TX7) (N := 42) hx hb htb inw7 tyX7 tyX7_ok nmX7 hown hK.1 hP (hDa _) hS 0 rfl rfl 1 (by decide) (htb _ wmt3_168) (fun _ h9 => h9) rfl (by decide +kernel) rfl rfl (Nat.le_of_ble_eq_true rfl) dX7_givenOf_329 (fun H locs hP _ hS => ?_)
                  have hP : va_P (dC, dI) vwCl (zM k q (sJ (sJ (sA (sI (sA (sA (sA (sI (sI (sI (sI (sA (sA (sA (sA (sA (sA (sA z 4 co4) 5 co5) 6 co6) 7 co7) 8 co8) 9 co9) 10 co10) 12 co12) 13 co13) 14 co14) 15 co15) 16 co16) 17 co17) 18 co18) 33 nn0) 34 ct2) 0 tp) 1 bt)) H := hP
                  refine lv_iload_n hx hb dX7_givenOf_332 rfl (lv_at hl 3 rfl) ?_
                  refine lv_if_eq (tgt := 341) hx hb dX7_givenOf_333 (by decide) (fun c_7 => ?_) (fun c_7 => ?_)
                  · skip
                    have hc_7 := zb_eq rfl (show (0 : Int32).toInt = 0 by decide) c_7
                    refine lv_iconst (v := 0) hx hb dX7_givenOf_341 (by decide) ?_
                    exact W.iret (v := 0) hx hb hr (fun t ht hW => ⟨⟨0, (co4, co5, co6, co7, co8, co9, co10, co12, co13, co14, co15, co16, co17, co18, tp, bt, nn0, ct2), rfl, (show (MD (FR (z.2.2.1 2) (z.2.2.1 3)) co4 co5 co6 co7 co8 co9 co10) ∧ ((0 : Int32).toInt = 0 → (0 ≤ tp.toInt ∧ tp.toInt ≤ 1000000000) ∧ (1 ≤ bt.toInt ∧ bt.toInt ≤ 1000000000)) ∧ (RK (z.2.2.1 4) (z.2.2.1 5) co4 co5) from ⟨hI.2.2.2.2.2, fun _ => by omega, hrk1⟩), ⟨by rw [ht]; exact hP, hDa _⟩⟩, hS.F ht⟩) hS.2.2 dX7_givenOf_342
                  · skip
                    have hc_7 := zb_ne rfl (show (0 : Int32).toInt = 0 by decide) c_7
                    refine lv_bipush (v := (-4)) hx hb dX7_givenOf_336 (by decide) ?_
                    refine lv_goto (tgt := 342) hx hb dX7_givenOf_338 (by decide) ?_
                    exact W.iret (v := (-4)) hx hb hr (fun t ht hW => ⟨⟨(-4), (co4, co5, co6, co7, co8, co9, co10, co12, co13, co14, co15, co16, co17, co18, tp, bt, nn0, ct2), rfl, (show (MD (FR (z.2.2.1 2) (z.2.2.1 3)) co4 co5 co6 co7 co8 co9 co10) ∧ (((-4) : Int32).toInt = 0 → (0 ≤ tp.toInt ∧ tp.toInt ≤ 1000000000) ∧ (1 ≤ bt.toInt ∧ bt.toInt ≤ 1000000000)) ∧ (RK (z.2.2.1 4) (z.2.2.1 5) co4 co5) from ⟨hI.2.2.2.2.2, fun q9 => absurd q9 (by decide), hrk1⟩), ⟨by rw [ht]; exact hP, hDa _⟩⟩, hS.F ht⟩) hS.2.2 dX7_givenOf_342
                · skip
                  have hc_6 := zb_ne rfl (show (0 : Int32).toInt = 0 by decide) c_6
                  refine lv_bipush (v := (-3)) hx hb dX7_givenOf_317 (by decide) ?_
                  exact W.iret (v := (-3)) hx hb hr (fun t ht hW => ⟨⟨(-3), (co4, co5, co6, co7, co8, co9, co10, co12, co13, co14, co15, co16, co17, co18, ja0, jb0, nn0, ct2), rfl, (show (MD (FR (z.2.2.1 2) (z.2.2.1 3)) co4 co5 co6 co7 co8 co9 co10) ∧ (((-3) : Int32).toInt = 0 → (0 ≤ ja0.toInt ∧ ja0.toInt ≤ 1000000000) ∧ (1 ≤ jb0.toInt ∧ jb0.toInt ≤ 1000000000)) ∧ (RK (z.2.2.1 4) (z.2.2.1 5) co4 co5) from ⟨hI.2.2.2.2.2, fun q9 => absurd q9 (by decide), hrk1⟩), ⟨by rw [ht]; exact hP, hDa _⟩⟩, hS.F ht⟩) hS.2.2 dX7_givenOf_319
              · skip
                have hc_5 := zb_nle rfl rfl c_5
                refine lv_aload_n hx hb dX7_givenOf_154 rfl (lv_at hl 5 rfl) ?_
                refine va_get (D := (dC, dI)) (ci := 7) (v := .ref (q 24)) (C := RX7) (T := TX7) (N := 42) hx hb htb inw7 hown hK.1 hP 0 rfl rfl 24 (by decide) (htb _ wmt3_191) (fun _ h9 => h9) rfl dX7_givenOf_155 ?_
                refine lv_iload hx hb dX7_givenOf_158 (lv_at hl 0 rfl) ?_
                refine va_iald (D := (dC, dI)) hx hb hK.1 hP 15 0 rfl rfl (z_in (by omega)) dX7_givenOf_160 ?_
                refine lv_topi (fun x_8 ex_8 => ?_)
                replace ex_8 : x_8 = (z.2.2.1 24) ja.toNatClampNeg := ex_8
                have hdg : 0 ≤ x_8.toInt ∧ x_8.toInt < 4 := by have q := (show P6 (z.1 22) (z.2.2.1 23) (z.2.2.1 24) from hI.1.1).2.2 ja.toNatClampNeg (by rw [z_clamp hja.1]; omega); rw [ex_8]; omega
                refine lv_istore (lv' := [(9, .int x_8), (8, .int ja), (6, .long bt), (4, .long tp), (3, .int fu), (2, .int fl), (0, .ref (q 0)), (1, .int pe)]) hx hb dX7_givenOf_161 hl (by decide) rfl (fun ls hl => ?_)
                refine lv_aload_n hx hb dX7_givenOf_163 rfl (lv_at hl 6 rfl) ?_
                refine va_get (D := (dC, dI)) (ci := 7) (v := .ref (q 23)) (C := RX7) (T := TX7) (N := 42) hx hb htb inw7 hown hK.1 hP 0 rfl rfl 23 (by decide) (htb _ wmt3_190) (fun _ h9 => h9) rfl dX7_givenOf_164 ?_
                refine lv_iload hx hb dX7_givenOf_167 (lv_at hl 1 rfl) ?_
                refine va_iald (D := (dC, dI)) hx hb hK.1 hP 14 0 rfl rfl (z_in (by omega)) dX7_givenOf_169 ?_
                refine lv_topi (fun x_9 ex_9 => ?_)
                replace ex_9 : x_9 = (z.2.2.1 23) ja.toNatClampNeg := ex_9
                refine lv_iload_n hx hb dX7_givenOf_170 rfl (lv_at hl 7 rfl) ?_
                refine lv_icmp_ne (tgt := 304) hx hb dX7_givenOf_171 (by decide) (fun c_10 => ?_) (fun c_10 => ?_)
                · skip
                  have hc_10 := zb_ne rfl rfl c_10
                  obtain ⟨x_11, ex_11⟩ : ∃ y : Int32, y = ja + 1 := ⟨_, rfl⟩
                  have hx_11 : x_11.toInt = ja.toInt + 1 := z_add ex_11 rfl (show (1 : Int32).toInt = 1 by decide) (by omega)
                  refine lv_iinc (v := x_11) (lv' := [(8, .int x_11), (9, .int x_8), (6, .long bt), (4, .long tp), (3, .int fu), (2, .int fl), (0, .ref (q 0)), (1, .int pe)]) hx hb dX7_givenOf_304 hl (k := 1) rfl (by rw [ex_11]; rfl) (by decide) rfl (fun ls hl => ?_)
                  refine lv_goto (tgt := 145) hx hb dX7_givenOf_307 (by decide) ?_
                  exact ih145 ((120 - x_11.toInt).toNat) (by omega) fu tp bt x_11 ja0 jb0 nn0 ct2 ⟨(show 0 ≤ x_11.toInt ∧ x_11.toInt ≤ 120 by omega), (show 0 ≤ tp.toInt ∧ 1 ≤ bt.toInt by omega), (fun q9 => by omega)⟩ rfl H locs ls hP hS (lv_sub hl [0, 2, 3, 4, 5, 6, 7] rfl)
                · skip
                  have hc_10 := zb_eq rfl rfl c_10
                  have hby2 := hc_10
                  refine lv_aload_n hx hb dX7_givenOf_174 rfl (lv_at hl 6 rfl) ?_
                  refine lv_iload hx hb dX7_givenOf_175 (lv_at hl 1 rfl) ?_
                  refine zcA_i (w := (zM k q (sA (sI (sJ (sJ (sA (sA (sA (sI (sI (sI (sI (sA (sA (sA (sA (sA (sA (sA z 4 co4) 5 co5) 6 co6) 7 co7) 8 co8) 9 co9) 10 co10) 12 co12) 13 co13) 14 co14) 15 co15) 16 co16) 17 co17) 18 co18) 0 ja0) 1 jb0) 33 nn0) 34 ct2))) (va_runV (As := [.int ja]) (rest := []) ⟨hx, hb, hml, hown, htb⟩ (c_X7_isKnown l dC dI k q (sA (sI (sJ (sJ (sA (sA (sA (sI (sI (sI (sI (sA (sA (sA (sA (sA (sA (sA z 4 co4) 5 co5) 6 co6) 7 co7) 8 co8) 9 co9) 10 co10) 12 co12) 13 co13) 14 co14) 15 co15) 16 co16) 17 co17) 18 co18) 0 ja0) 1 jb0) 33 nn0) 34 ct2) ja _ (show 0 ≤ ja.toInt ∧ ja.toInt < 120 by omega)) (cwV 1 htb (gzV wmt4_190 wmt4_192 wmp3_6 wmt1_8 wmt4_193) rfl rfl rfl (by decide +kernel) ⟨Nat.le_of_ble_eq_true rfl, Nat.le_of_ble_eq_true rfl⟩) (zpA_V (ci := 7) (q0 := 0) hK hP (hDa _) rfl rfl) rfl rfl hl.1 rfl (lv_room (Nat.le_of_ble_eq_true rfl)) dX7_givenOf_177 ⟨Nat.le_of_ble_eq_true rfl, Nat.le_of_ble_eq_true rfl⟩) (hDa _) hS hA (fun r_12 u_13 H locs w_14 hP _ hS => ?_)
                  rcases w_14 with ⟨e_16, h_15⟩ | ⟨e_18, h_17⟩
                  · skip
                    replace e_16 : r_12 = 1 := e_16
                    subst e_16
                    replace h_15 : kn (sA (sI (sJ (sJ (sA (sA (sA (sI (sI (sI (sI (sA (sA (sA (sA (sA (sA (sA z 4 co4) 5 co5) 6 co6) 7 co7) 8 co8) 9 co9) 10 co10) 12 co12) 13 co13) 14 co14) 15 co15) 16 co16) 17 co17) 18 co18) 0 ja0) 1 jb0) 33 nn0) 34 ct2) ja.toNatClampNeg := h_15
                    obtain ⟨hgr, hgf⟩ := hgi0 ja.toNatClampNeg (by rw [z_clamp hja.1]; omega) (by rw [← ex_9]; exact Int32.toInt_inj.mp hby2) h_15 (Or.inl (by rw [← ex_8]; omega))
                    rw [← ex_8] at hgr hgf
                    have hmsg := MD_at (show MD (FR (z.2.2.1 2) (z.2.2.1 3)) co4 co5 co6 co7 co8 co9 co10 from hI.2.2.2.2.2) (d := x_8) (by omega)
                    obtain ⟨hgw, hgs, -⟩ := hmsg.2.2.2.2.2 hgr
                    have hgs2 := hgs hgf
                    refine lv_if_eq (tgt := 304) hx hb dX7_givenOf_180 (by decide) (fun c_19 => ?_) (fun c_19 => ?_)
                    · skip
                      exact absurd c_19 (by decide)
                    · skip
                      refine lv_aload_n hx hb dX7_givenOf_183 rfl (lv_at hl 6 rfl) ?_
                      refine va_get (D := (dC, dI)) (ci := 7) (v := .ref (q 34)) (C := RX7) (T := TX7) (N := 42) hx hb htb inw7 hown hK.1 hP 0 rfl rfl 34 (by decide) (htb _ wmt3_201) (fun _ h9 => h9) rfl dX7_givenOf_184 ?_
                      refine lv_iload hx hb dX7_givenOf_187 (lv_at hl 0 rfl) ?_
                      refine lv_dup2_11 hx hb dX7_givenOf_189 rfl rfl ?_
                      refine va_iald (D := (dC, dI)) hx hb hK.1 hP 19 0 rfl rfl (z_in (by omega)) dX7_givenOf_190 ?_
                      refine lv_topi (fun x_20 ex_20 => ?_)
                      replace ex_20 : x_20 = ct2 x_8.toNatClampNeg := ex_20
                      refine lv_iconst (v := 1) hx hb dX7_givenOf_191 (by decide) ?_
                      refine lv_iadd hx hb dX7_givenOf_192 ?_
                      refine lv_topi (fun x_21 ex_21 => ?_)
                      refine va_iast (D := (dC, dI)) hx hb hK.1 hP (hDa _) hS 19 0 rfl rfl (z_in (by omega)) dX7_givenOf_193 (fun H locs hP _ hS => ?_)
                      obtain ⟨f_22, ef_22⟩ : ∃ x : Nat → Int32, x = upd ct2 x_8.toNatClampNeg x_21 := ⟨_, rfl⟩
                      have hP : va_P (dC, dI) vwCl (zM k q (sA (sI (sJ (sJ (sA (sA (sA (sI (sI (sI (sI (sA (sA (sA (sA (sA (sA (sA z 4 co4) 5 co5) 6 co6) 7 co7) 8 co8) 9 co9) 10 co10) 12 co12) 13 co13) 14 co14) 15 co15) 16 co16) 17 co17) 18 co18) 0 ja0) 1 jb0) 33 nn0) 34 f_22)) H := by rw [ef_22]; exact hP
                      refine lv_aload_n hx hb dX7_givenOf_194 rfl (lv_at hl 6 rfl) ?_
                      refine va_get (D := (dC, dI)) (ci := 7) (v := .ref (q 34)) (C := RX7) (T := TX7) (N := 42) hx hb htb inw7 hown hK.1 hP 0 rfl rfl 34 (by decide) (htb _ wmt3_201) (fun _ h9 => h9) rfl dX7_givenOf_195 ?_
                      refine lv_iload hx hb dX7_givenOf_198 (lv_at hl 0 rfl) ?_
                      refine va_iald (D := (dC, dI)) hx hb hK.1 hP 19 0 rfl rfl (z_in (by omega)) dX7_givenOf_200 ?_
                      refine lv_topi (fun x_23 ex_23 => ?_)
                      replace ex_23 : x_23 = f_22 x_8.toNatClampNeg := ex_23
                      refine lv_iconst (v := 3) hx hb dX7_givenOf_201 (by decide) ?_
                      refine lv_icmp_ge (tgt := 304) hx hb dX7_givenOf_202 (by decide) (fun c_24 => ?_) (fun c_24 => ?_)
                      · skip
                        have hc_24 := zb_le (show (3 : Int32).toInt = 3 by decide) rfl c_24
                        obtain ⟨x_25, ex_25⟩ : ∃ y : Int32, y = ja + 1 := ⟨_, rfl⟩
                        have hx_25 : x_25.toInt = ja.toInt + 1 := z_add ex_25 rfl (show (1 : Int32).toInt = 1 by decide) (by omega)
                        refine lv_iinc (v := x_25) (lv' := [(8, .int x_25), (9, .int x_8), (6, .long bt), (4, .long tp), (3, .int fu), (2, .int fl), (0, .ref (q 0)), (1, .int pe)]) hx hb dX7_givenOf_304 hl (k := 1) rfl (by rw [ex_25]; rfl) (by decide) rfl (fun ls hl => ?_)
                        refine lv_goto (tgt := 145) hx hb dX7_givenOf_307 (by decide) ?_
                        exact ih145 ((120 - x_25.toInt).toNat) (by omega) fu tp bt x_25 ja0 jb0 nn0 f_22 ⟨(show 0 ≤ x_25.toInt ∧ x_25.toInt ≤ 120 by omega), (show 0 ≤ tp.toInt ∧ 1 ≤ bt.toInt by omega), (fun q9 => by omega)⟩ rfl H locs ls hP hS (lv_sub hl [0, 2, 3, 4, 5, 6, 7] rfl)
                      · skip
                        have hc_24 := zb_nle (show (3 : Int32).toInt = 3 by decide) rfl c_24
                        refine lv_aload_n hx hb dX7_givenOf_205 rfl (lv_at hl 6 rfl) ?_
                        refine lv_iload hx hb dX7_givenOf_206 (lv_at hl 0 rfl) ?_
                        refine lv_aload_n hx hb dX7_givenOf_208 rfl (lv_at hl 6 rfl) ?_
                        refine va_get (D := (dC, dI)) (ci := 7) (v := .ref (q 25)) (C := RX7) (T := TX7) (N := 42) hx hb htb inw7 hown hK.1 hP 0 rfl rfl 25 (by decide) (htb _ wmt3_192) (fun _ h9 => h9) rfl dX7_givenOf_209 ?_
                        refine lv_iload hx hb dX7_givenOf_212 (lv_at hl 1 rfl) ?_
                        refine va_iald (D := (dC, dI)) hx hb hK.1 hP 16 0 rfl rfl (z_in (by omega)) dX7_givenOf_214 ?_
                        refine lv_topi (fun x_26 ex_26 => ?_)
                        replace ex_26 : x_26 = (z.2.2.1 25) ja.toNatClampNeg := ex_26
                        refine zcA_i (w := (zM k q (sA (sI (sJ (sJ (sA (sA (sA (sI (sI (sI (sI (sA (sA (sA (sA (sA (sA (sA z 4 co4) 5 co5) 6 co6) 7 co7) 8 co8) 9 co9) 10 co10) 12 co12) 13 co13) 14 co14) 15 co15) 16 co16) 17 co17) 18 co18) 0 ja0) 1 jb0) 33 nn0) 34 f_22))) (va_runV (As := [.int x_8, .int x_26]) (rest := []) ⟨hx, hb, hml, hown, htb⟩ (c_X7_gives l dC dI k q (sA (sI (sJ (sJ (sA (sA (sA (sI (sI (sI (sI (sA (sA (sA (sA (sA (sA (sA z 4 co4) 5 co5) 6 co6) 7 co7) 8 co8) 9 co9) 10 co10) 12 co12) 13 co13) 14 co14) 15 co15) 16 co16) 17 co17) 18 co18) 0 ja0) 1 jb0) 33 nn0) 34 f_22) x_8 x_26 _ hI (by omega) hmsg) (cwV 2 htb (gzV wmt5_32 wmt5_34 wmp3_14 wmt1_8 wmt5_35) rfl rfl rfl (by decide +kernel) ⟨Nat.le_of_ble_eq_true rfl, Nat.le_of_ble_eq_true rfl⟩) (zpA_V (ci := 7) (q0 := 0) hK hP (hDa _) rfl rfl) rfl rfl hl.1 rfl (lv_room (Nat.le_of_ble_eq_true rfl)) dX7_givenOf_215 ⟨Nat.le_of_ble_eq_true rfl, Nat.le_of_ble_eq_true rfl⟩) (hDa _) hS hA (fun r_27 u_28 H locs w_29 hP _ hS => ?_)
                        obtain ⟨oa_30, ob_31⟩ := u_28
                        have hP : va_P (dC, dI) vwCl (zM k q (sJ (sJ (sA (sI (sA (sA (sA (sI (sI (sI (sI (sA (sA (sA (sA (sA (sA (sA z 4 co4) 5 co5) 6 co6) 7 co7) 8 co8) 9 co9) 10 co10) 12 co12) 13 co13) 14 co14) 15 co15) 16 co16) 17 co17) 18 co18) 33 nn0) 34 f_22) 0 oa_30) 1 ob_31)) H := hP
                        rcases w_29 with ⟨e_36, h_32, h_33, h_34, h_35⟩ | ⟨e_40, h_37, h_38, h_39⟩
                        · skip
                          replace e_36 : r_27 = 1 := e_36
                          subst e_36
                          replace h_32 : 1 ≤ ob_31.toInt ∧ ob_31.toInt ≤ 731520 := h_32
                          replace h_33 : -731520 ≤ oa_30.toInt ∧ oa_30.toInt ≤ 731520 := h_33
                          replace h_34 : (co7 x_8.toNatClampNeg).toInt + (co8 x_8.toNatClampNeg).toInt + (co9 x_8.toNatClampNeg).toInt + (co10 x_8.toNatClampNeg).toInt ≤ (co6 x_8.toNatClampNeg).toInt → 0 ≤ oa_30.toInt ∧ oa_30.toInt ≤ 11520 ∧ ob_31.toInt ≤ 11520 := h_34
                          replace h_35 : 0 < (if x_26.toInt = 1 then yI (co7 x_8.toNatClampNeg) (co8 x_8.toNatClampNeg) (co9 x_8.toNatClampNeg) (co10 x_8.toNatClampNeg) ((z.1 11)) 1 else 24 * (co6 x_8.toNatClampNeg).toInt - yI (co7 x_8.toNatClampNeg) (co8 x_8.toNatClampNeg) (co9 x_8.toNatClampNeg) (co10 x_8.toNatClampNeg) ((z.1 11)) 1) → 0 < (if x_26.toInt = 1 then yI (co7 x_8.toNatClampNeg) (co8 x_8.toNatClampNeg) (co9 x_8.toNatClampNeg) (co10 x_8.toNatClampNeg) ((z.1 11)) 0 else 24 * (co6 x_8.toNatClampNeg).toInt - yI (co7 x_8.toNatClampNeg) (co8 x_8.toNatClampNeg) (co9 x_8.toNatClampNeg) (co10 x_8.toNatClampNeg) ((z.1 11)) 0) → 1 ≤ oa_30.toInt := h_35
                          have hv1 := h_32
                          have hv3 := h_34 (by omega)
                          refine lv_istore (lv' := [(10, .int 1), (9, .int x_8), (8, .int ja), (6, .long bt), (4, .long tp), (3, .int fu), (2, .int fl), (0, .ref (q 0)), (1, .int pe)]) hx hb dX7_givenOf_218 hl (by decide) rfl (fun ls hl => ?_)
                          refine lv_aload_n hx hb dX7_givenOf_220 rfl (lv_at hl 7 rfl) ?_
                          refine lv_aload_n hx hb dX7_givenOf_221 rfl (lv_at hl 7 rfl) ?_
                          refine va_get (D := (dC, dI)) (ci := 7) (v := .int nn0) (C := RX7) (T := TX7) (N := 42) hx hb htb inw7 hown hK.1 hP 0 rfl rfl 33 (by decide) (htb _ wmt3_200) (fun _ h9 => h9) rfl dX7_givenOf_222 ?_
                          refine lv_if_ne (tgt := 233) hx hb dX7_givenOf_225 (by decide) (fun c_41 => ?_) (fun c_41 => ?_)
                          · skip
                            have hc_41 := zb_ne rfl (show (0 : Int32).toInt = 0 by decide) c_41
                            refine lv_iconst (v := 1) hx hb dX7_givenOf_233 (by decide) ?_
                            refine lv_goto (tgt := 238) hx hb dX7_givenOf_234 (by decide) ?_
                            refine va_put (D := (dC, dI)) (ci := 7) (v := .int 1) (ty := .boolean) (C := RX7) (T := TX7) (N := 42) hx hb htb inw7 tyX7 tyX7_ok nmX7 hown hK.1 hP (hDa _) hS 0 rfl rfl 33 (by decide) (htb _ wmt3_200) (fun _ h9 => h9) rfl (by decide +kernel) rfl rfl (Nat.le_of_ble_eq_true rfl) dX7_givenOf_238 (fun H locs hP _ hS => ?_)
                            have hP : va_P (dC, dI) vwCl (zM k q (sI (sJ (sJ (sA (sA (sA (sA (sI (sI (sI (sI (sA (sA (sA (sA (sA (sA (sA z 4 co4) 5 co5) 6 co6) 7 co7) 8 co8) 9 co9) 10 co10) 12 co12) 13 co13) 14 co14) 15 co15) 16 co16) 17 co17) 18 co18) 34 f_22) 0 oa_30) 1 ob_31) 33 1)) H := hP
                            refine lv_iload hx hb dX7_givenOf_241 (lv_at hl 0 rfl) ?_
                            refine lv_if_eq (tgt := 304) hx hb dX7_givenOf_243 (by decide) (fun c_42 => ?_) (fun c_42 => ?_)
                            · skip
                              exact absurd c_42 (by decide)
                            · skip
                              refine lv_iload_n hx hb dX7_givenOf_246 rfl (lv_at hl 5 rfl) ?_
                              refine lv_if_ne (tgt := 304) hx hb dX7_givenOf_247 (by decide) (fun c_43 => ?_) (fun c_43 => ?_)
                              · skip
                                have hc_43 := zb_ne rfl (show (0 : Int32).toInt = 0 by decide) c_43
                                obtain ⟨x_44, ex_44⟩ : ∃ y : Int32, y = ja + 1 := ⟨_, rfl⟩
                                have hx_44 : x_44.toInt = ja.toInt + 1 := z_add ex_44 rfl (show (1 : Int32).toInt = 1 by decide) (by omega)
                                refine lv_iinc (v := x_44) (lv' := [(8, .int x_44), (10, .int 1), (9, .int x_8), (6, .long bt), (4, .long tp), (3, .int fu), (2, .int fl), (0, .ref (q 0)), (1, .int pe)]) hx hb dX7_givenOf_304 hl (k := 2) rfl (by rw [ex_44]; rfl) (by decide) rfl (fun ls hl => ?_)
                                refine lv_goto (tgt := 145) hx hb dX7_givenOf_307 (by decide) ?_
                                exact ih145 ((120 - x_44.toInt).toNat) (by omega) fu tp bt x_44 oa_30 ob_31 1 f_22 ⟨(show 0 ≤ x_44.toInt ∧ x_44.toInt ≤ 120 by omega), (show 0 ≤ tp.toInt ∧ 1 ≤ bt.toInt by omega), (fun q9 => by omega)⟩ rfl H locs ls hP hS (lv_sub hl [0, 3, 4, 5, 6, 7, 8] rfl)
                              · skip
                                have hc_43 := zb_eq rfl (show (0 : Int32).toInt = 0 by decide) c_43
                                refine lv_aload_n hx hb dX7_givenOf_250 rfl (lv_at hl 7 rfl) ?_
                                refine lv_lload hx hb dX7_givenOf_251 (lv_at hl 4 rfl) ?_
                                refine lv_aload_n hx hb dX7_givenOf_253 rfl (lv_at hl 7 rfl) ?_
                                refine va_get (D := (dC, dI)) (ci := 7) (v := .long oa_30) (C := RX7) (T := TX7) (N := 42) hx hb htb inw7 hown hK.1 hP 0 rfl rfl 0 (by decide) (htb _ wmt3_167) (fun _ h9 => h9) rfl dX7_givenOf_254 ?_
                                refine lv_lmul hx hb dX7_givenOf_257 ?_
                                refine lv_topl (fun x_45 ex_45 => ?_)
                                have qx_45 := z_mulb (a := tp.toInt) (b := oa_30.toInt) (A := 1000000000) (B := 11520) (by omega) (by omega)
                                have hx_45 := zl_mul ex_45 rfl rfl (by omega)
                                refine lv_lload hx hb dX7_givenOf_258 (lv_at hl 3 rfl) ?_
                                refine lv_aload_n hx hb dX7_givenOf_260 rfl (lv_at hl 7 rfl) ?_
                                refine va_get (D := (dC, dI)) (ci := 7) (v := .long ob_31) (C := RX7) (T := TX7) (N := 42) hx hb htb inw7 hown hK.1 hP 0 rfl rfl 1 (by decide) (htb _ wmt3_168) (fun _ h9 => h9) rfl dX7_givenOf_261 ?_
                                refine lv_lmul hx hb dX7_givenOf_264 ?_
                                refine lv_topl (fun x_46 ex_46 => ?_)
                                have qx_46 := z_mulb (a := bt.toInt) (b := ob_31.toInt) (A := 1000000000) (B := 11520) (by omega) (by omega)
                                have px_46 : 1 * 1 ≤ bt.toInt * ob_31.toInt := Int.mul_le_mul (by omega) (by omega) (by decide) (by omega)
                                have hx_46 := zl_mul ex_46 rfl rfl (by omega)
                                refine zcA_v (w := (zM k q (sI (sJ (sJ (sA (sA (sA (sA (sI (sI (sI (sI (sA (sA (sA (sA (sA (sA (sA z 4 co4) 5 co5) 6 co6) 7 co7) 8 co8) 9 co9) 10 co10) 12 co12) 13 co13) 14 co14) 15 co15) 16 co16) 17 co17) 18 co18) 34 f_22) 0 oa_30) 1 ob_31) 33 1))) (va_runV (As := [.long x_45, .long x_46]) (rest := []) ⟨hx, hb, hml, hown, htb⟩ (c_X7_is l dC dI k q (sI (sJ (sJ (sA (sA (sA (sA (sI (sI (sI (sI (sA (sA (sA (sA (sA (sA (sA z 4 co4) 5 co5) 6 co6) 7 co7) 8 co8) 9 co9) 10 co10) 12 co12) 13 co13) 14 co14) 15 co15) 16 co16) 17 co17) 18 co18) 34 f_22) 0 oa_30) 1 ob_31) 33 1) x_45 x_46 _ (show (-4611686018427387904 < x_45.toInt ∧ x_45.toInt < 4611686018427387904) by omega) (show (-4611686018427387904 < x_46.toInt ∧ x_46.toInt < 4611686018427387904) by omega) (show x_46.toInt ≠ 0 by omega)) (cwV 2 htb (gzV wmt4_129 wmt4_131 wmp3_0 wmt1_8 wmt4_132) rfl rfl rfl (by decide +kernel) ⟨Nat.le_of_ble_eq_true rfl, Nat.le_of_ble_eq_true rfl⟩) (zpA_V (ci := 7) (q0 := 0) hK hP (hDa _) rfl rfl) rfl rfl hl.1 rfl (lv_room (Nat.le_of_ble_eq_true rfl)) dX7_givenOf_265 ⟨Nat.le_of_ble_eq_true rfl, Nat.le_of_ble_eq_true rfl⟩) (hDa _) hS hA (fun u_48 H locs w_49 hP _ hS => ?_)
                                obtain ⟨oa_50, ob_51⟩ := u_48
                                have hP : va_P (dC, dI) vwCl (zM k q (sJ (sJ (sI (sA (sA (sA (sA (sI (sI (sI (sI (sA (sA (sA (sA (sA (sA (sA z 4 co4) 5 co5) 6 co6) 7 co7) 8 co8) 9 co9) 10 co10) 12 co12) 13 co13) 14 co14) 15 co15) 16 co16) 17 co17) 18 co18) 34 f_22) 33 1) 0 oa_50) 1 ob_51)) H := hP
                                obtain ⟨h_52, h_53, h_54, h_55, h_56⟩ := w_49
                                replace h_52 : 1 ≤ ob_51.toInt ∧ ob_51.toInt ≤ (x_46.toInt.natAbs : Int) := h_52
                                replace h_53 : (oa_50.toInt.natAbs : Int) ≤ (x_45.toInt.natAbs : Int) := h_53
                                replace h_54 : (0 ≤ x_45.toInt → 0 < x_46.toInt → 0 ≤ oa_50.toInt) ∧ (0 < x_45.toInt → 0 < x_46.toInt → 1 ≤ oa_50.toInt) := h_54
                                replace h_55 : ob_51.toInt = ((x_46.toInt.natAbs / Nat.gcd x_45.toInt.natAbs x_46.toInt.natAbs : Nat) : Int) := h_55
                                replace h_56 : oa_50.toInt = x_45.toInt.tdiv (if x_46.toInt < 0 then -(Nat.gcd x_45.toInt.natAbs x_46.toInt.natAbs : Int) else (Nat.gcd x_45.toInt.natAbs x_46.toInt.natAbs : Int)) := h_56
                                have his0 := h_52
                                have his1 := h_53
                                have his2 := h_54
                                have his3 := h_55
                                have his4 := h_56
                                refine lv_aload_n hx hb dX7_givenOf_268 rfl (lv_at hl 7 rfl) ?_
                                refine va_get (D := (dC, dI)) (ci := 7) (v := .long oa_50) (C := RX7) (T := TX7) (N := 42) hx hb htb inw7 hown hK.1 hP 0 rfl rfl 0 (by decide) (htb _ wmt3_167) (fun _ h9 => h9) rfl dX7_givenOf_269 ?_
                                refine lv_lstore (lv' := [(4, .long oa_50), (10, .int 1), (9, .int x_8), (8, .int ja), (6, .long bt), (3, .int fu), (2, .int fl), (0, .ref (q 0)), (1, .int pe)]) hx hb dX7_givenOf_272 hl (by decide) rfl (fun ls hl => ?_)
                                refine lv_aload_n hx hb dX7_givenOf_274 rfl (lv_at hl 7 rfl) ?_
                                refine va_get (D := (dC, dI)) (ci := 7) (v := .long ob_51) (C := RX7) (T := TX7) (N := 42) hx hb htb inw7 hown hK.1 hP 0 rfl rfl 1 (by decide) (htb _ wmt3_168) (fun _ h9 => h9) rfl dX7_givenOf_275 ?_
                                refine lv_lstore (lv' := [(6, .long ob_51), (4, .long oa_50), (10, .int 1), (9, .int x_8), (8, .int ja), (3, .int fu), (2, .int fl), (0, .ref (q 0)), (1, .int pe)]) hx hb dX7_givenOf_278 hl (by decide) rfl (fun ls hl => ?_)
                                refine lv_lload hx hb dX7_givenOf_280 (lv_at hl 1 rfl) ?_
                                refine lv_ldc2 (v := 1000000000) hx hb hown (htb _ wmt5_48) dX7_givenOf_282 ?_
                                refine z_lcmp hx hb dX7_givenOf_285 ?_
                                refine lv_if_gt (tgt := 298) hx hb dX7_givenOf_286 (by decide) (fun c_58 => ?_) (fun c_58 => ?_)
                                · skip
                                  have hc_58 := zl_gt rfl (show (1000000000 : Int64).toInt = 1000000000 by decide) c_58
                                  refine lv_iconst (v := 1) hx hb dX7_givenOf_298 (by decide) ?_
                                  refine lv_goto (tgt := 303) hx hb dX7_givenOf_299 (by decide) ?_
                                  refine lv_istore_n (lv' := [(3, .int 1), (6, .long ob_51), (4, .long oa_50), (10, .int 1), (9, .int x_8), (8, .int ja), (2, .int fl), (0, .ref (q 0)), (1, .int pe)]) hx hb dX7_givenOf_303 rfl hl (by decide) rfl (fun ls hl => ?_)
                                  obtain ⟨x_59, ex_59⟩ : ∃ y : Int32, y = ja + 1 := ⟨_, rfl⟩
                                  have hx_59 : x_59.toInt = ja.toInt + 1 := z_add ex_59 rfl (show (1 : Int32).toInt = 1 by decide) (by omega)
                                  refine lv_iinc (v := x_59) (lv' := [(8, .int x_59), (3, .int 1), (6, .long ob_51), (4, .long oa_50), (10, .int 1), (9, .int x_8), (2, .int fl), (0, .ref (q 0)), (1, .int pe)]) hx hb dX7_givenOf_304 hl (k := 5) rfl (by rw [ex_59]; rfl) (by decide) rfl (fun ls hl => ?_)
                                  refine lv_goto (tgt := 145) hx hb dX7_givenOf_307 (by decide) ?_
                                  exact ih145 ((120 - x_59.toInt).toNat) (by omega) 1 oa_50 ob_51 x_59 oa_50 ob_51 1 f_22 ⟨(show 0 ≤ x_59.toInt ∧ x_59.toInt ≤ 120 by omega), (show 0 ≤ oa_50.toInt ∧ 1 ≤ ob_51.toInt by omega), (fun q9 => absurd q9 (by decide))⟩ rfl H locs ls hP hS (lv_sub hl [0, 2, 3, 1, 6, 7, 8] rfl)
                                · skip
                                  have hc_58 := zl_ngt rfl (show (1000000000 : Int64).toInt = 1000000000 by decide) c_58
                                  refine lv_lload hx hb dX7_givenOf_289 (lv_at hl 0 rfl) ?_
                                  refine lv_ldc2 (v := 1000000000) hx hb hown (htb _ wmt5_48) dX7_givenOf_291 ?_
                                  refine z_lcmp hx hb dX7_givenOf_294 ?_
                                  refine lv_if_le (tgt := 302) hx hb dX7_givenOf_295 (by decide) (fun c_60 => ?_) (fun c_60 => ?_)
                                  · skip
                                    have hc_60 := zl_le rfl (show (1000000000 : Int64).toInt = 1000000000 by decide) c_60
                                    refine lv_iconst (v := 0) hx hb dX7_givenOf_302 (by decide) ?_
                                    refine lv_istore_n (lv' := [(3, .int 0), (6, .long ob_51), (4, .long oa_50), (10, .int 1), (9, .int x_8), (8, .int ja), (2, .int fl), (0, .ref (q 0)), (1, .int pe)]) hx hb dX7_givenOf_303 rfl hl (by decide) rfl (fun ls hl => ?_)
                                    obtain ⟨x_61, ex_61⟩ : ∃ y : Int32, y = ja + 1 := ⟨_, rfl⟩
                                    have hx_61 : x_61.toInt = ja.toInt + 1 := z_add ex_61 rfl (show (1 : Int32).toInt = 1 by decide) (by omega)
                                    refine lv_iinc (v := x_61) (lv' := [(8, .int x_61), (3, .int 0), (6, .long ob_51), (4, .long oa_50), (10, .int 1), (9, .int x_8), (2, .int fl), (0, .ref (q 0)), (1, .int pe)]) hx hb dX7_givenOf_304 hl (k := 5) rfl (by rw [ex_61]; rfl) (by decide) rfl (fun ls hl => ?_)
                                    refine lv_goto (tgt := 145) hx hb dX7_givenOf_307 (by decide) ?_
                                    exact ih145 ((120 - x_61.toInt).toNat) (by omega) 0 oa_50 ob_51 x_61 oa_50 ob_51 1 f_22 ⟨(show 0 ≤ x_61.toInt ∧ x_61.toInt ≤ 120 by omega), (show 0 ≤ oa_50.toInt ∧ 1 ≤ ob_51.toInt by omega), (fun q9 => by omega)⟩ rfl H locs ls hP hS (lv_sub hl [0, 2, 3, 1, 6, 7, 8] rfl)
                                  · skip
                                    have hc_60 := zl_nle rfl (show (1000000000 : Int64).toInt = 1000000000 by decide) c_60
                                    refine lv_iconst (v := 1) hx hb dX7_givenOf_298 (by decide) ?_
                                    refine lv_goto (tgt := 303) hx hb dX7_givenOf_299 (by decide) ?_
                                    refine lv_istore_n (lv' := [(3, .int 1), (6, .long ob_51), (4, .long oa_50), (10, .int 1), (9, .int x_8), (8, .int ja), (2, .int fl), (0, .ref (q 0)), (1, .int pe)]) hx hb dX7_givenOf_303 rfl hl (by decide) rfl (fun ls hl => ?_)
                                    obtain ⟨x_62, ex_62⟩ : ∃ y : Int32, y = ja + 1 := ⟨_, rfl⟩
                                    have hx_62 : x_62.toInt = ja.toInt + 1 := z_add ex_62 rfl (show (1 : Int32).toInt = 1 by decide) (by omega)
                                    refine lv_iinc (v := x_62) (lv' := [(8, .int x_62), (3, .int 1), (6, .long ob_51), (4, .long oa_50), (10, .int 1), (9, .int x_8), (2, .int fl), (0, .ref (q 0)), (1, .int pe)]) hx hb dX7_givenOf_304 hl (k := 5) rfl (by rw [ex_62]; rfl) (by decide) rfl (fun ls hl => ?_)
                                    refine lv_goto (tgt := 145) hx hb dX7_givenOf_307 (by decide) ?_
                                    exact ih145 ((120 - x_62.toInt).toNat) (by omega) 1 oa_50 ob_51 x_62 oa_50 ob_51 1 f_22 ⟨(show 0 ≤ x_62.toInt ∧ x_62.toInt ≤ 120 by omega), (show 0 ≤ oa_50.toInt ∧ 1 ≤ ob_51.toInt by omega), (fun q9 => absurd q9 (by decide))⟩ rfl H locs ls hP hS (lv_sub hl [0, 2, 3, 1, 6, 7, 8] rfl)
                          · skip
                            have hc_41 := zb_eq rfl (show (0 : Int32).toInt = 0 by decide) c_41
                            refine lv_iload hx hb dX7_givenOf_228 (lv_at hl 0 rfl) ?_
                            refine lv_if_ne (tgt := 237) hx hb dX7_givenOf_230 (by decide) (fun c_63 => ?_) (fun c_63 => ?_)
                            · skip
                              refine lv_iconst (v := 0) hx hb dX7_givenOf_237 (by decide) ?_
                              refine va_put (D := (dC, dI)) (ci := 7) (v := .int 0) (ty := .boolean) (C := RX7) (T := TX7) (N := 42) hx hb htb inw7 tyX7 tyX7_ok nmX7 hown hK.1 hP (hDa _) hS 0 rfl rfl 33 (by decide) (htb _ wmt3_200) (fun _ h9 => h9) rfl (by decide +kernel) rfl rfl (Nat.le_of_ble_eq_true rfl) dX7_givenOf_238 (fun H locs hP _ hS => ?_)
                              have hP : va_P (dC, dI) vwCl (zM k q (sI (sJ (sJ (sA (sA (sA (sA (sI (sI (sI (sI (sA (sA (sA (sA (sA (sA (sA z 4 co4) 5 co5) 6 co6) 7 co7) 8 co8) 9 co9) 10 co10) 12 co12) 13 co13) 14 co14) 15 co15) 16 co16) 17 co17) 18 co18) 34 f_22) 0 oa_30) 1 ob_31) 33 0)) H := hP
                              refine lv_iload hx hb dX7_givenOf_241 (lv_at hl 0 rfl) ?_
                              refine lv_if_eq (tgt := 304) hx hb dX7_givenOf_243 (by decide) (fun c_64 => ?_) (fun c_64 => ?_)
                              · skip
                                exact absurd c_64 (by decide)
                              · skip
                                refine lv_iload_n hx hb dX7_givenOf_246 rfl (lv_at hl 5 rfl) ?_
                                refine lv_if_ne (tgt := 304) hx hb dX7_givenOf_247 (by decide) (fun c_65 => ?_) (fun c_65 => ?_)
                                · skip
                                  have hc_65 := zb_ne rfl (show (0 : Int32).toInt = 0 by decide) c_65
                                  obtain ⟨x_66, ex_66⟩ : ∃ y : Int32, y = ja + 1 := ⟨_, rfl⟩
                                  have hx_66 : x_66.toInt = ja.toInt + 1 := z_add ex_66 rfl (show (1 : Int32).toInt = 1 by decide) (by omega)
                                  refine lv_iinc (v := x_66) (lv' := [(8, .int x_66), (10, .int 1), (9, .int x_8), (6, .long bt), (4, .long tp), (3, .int fu), (2, .int fl), (0, .ref (q 0)), (1, .int pe)]) hx hb dX7_givenOf_304 hl (k := 2) rfl (by rw [ex_66]; rfl) (by decide) rfl (fun ls hl => ?_)
                                  refine lv_goto (tgt := 145) hx hb dX7_givenOf_307 (by decide) ?_
                                  exact ih145 ((120 - x_66.toInt).toNat) (by omega) fu tp bt x_66 oa_30 ob_31 0 f_22 ⟨(show 0 ≤ x_66.toInt ∧ x_66.toInt ≤ 120 by omega), (show 0 ≤ tp.toInt ∧ 1 ≤ bt.toInt by omega), (fun q9 => by omega)⟩ rfl H locs ls hP hS (lv_sub hl [0, 3, 4, 5, 6, 7, 8] rfl)
                                · skip
                                  have hc_65 := zb_eq rfl (show (0 : Int32).toInt = 0 by decide) c_65
                                  refine lv_aload_n hx hb dX7_givenOf_250 rfl (lv_at hl 7 rfl) ?_
                                  refine lv_lload hx hb dX7_givenOf_251 (lv_at hl 4 rfl) ?_
                                  refine lv_aload_n hx hb dX7_givenOf_253 rfl (lv_at hl 7 rfl) ?_
                                  refine va_get (D := (dC, dI)) (ci := 7) (v := .long oa_30) (C := RX7) (T := TX7) (N := 42) hx hb htb inw7 hown hK.1 hP 0 rfl rfl 0 (by decide) (htb _ wmt3_167) (fun _ h9 => h9) rfl dX7_givenOf_254 ?_
                                  refine lv_lmul hx hb dX7_givenOf_257 ?_
                                  refine lv_topl (fun x_67 ex_67 => ?_)
                                  have qx_67 := z_mulb (a := tp.toInt) (b := oa_30.toInt) (A := 1000000000) (B := 11520) (by omega) (by omega)
                                  have hx_67 := zl_mul ex_67 rfl rfl (by omega)
                                  refine lv_lload hx hb dX7_givenOf_258 (lv_at hl 3 rfl) ?_
                                  refine lv_aload_n hx hb dX7_givenOf_260 rfl (lv_at hl 7 rfl) ?_
                                  refine va_get (D := (dC, dI)) (ci := 7) (v := .long ob_31) (C := RX7) (T := TX7) (N := 42) hx hb htb inw7 hown hK.1 hP 0 rfl rfl 1 (by decide) (htb _ wmt3_168) (fun _ h9 => h9) rfl dX7_givenOf_261 ?_
                                  refine lv_lmul hx hb dX7_givenOf_264 ?_
                                  refine lv_topl (fun x_68 ex_68 => ?_)
                                  have qx_68 := z_mulb (a := bt.toInt) (b := ob_31.toInt) (A := 1000000000) (B := 11520) (by omega) (by omega)
                                  have px_68 : 1 * 1 ≤ bt.toInt * ob_31.toInt := Int.mul_le_mul (by omega) (by omega) (by decide) (by omega)
                                  have hx_68 := zl_mul ex_68 rfl rfl (by omega)
                                  refine zcA_v (w := (zM k q (sI (sJ (sJ (sA (sA (sA (sA (sI (sI (sI (sI (sA (sA (sA (sA (sA (sA (sA z 4 co4) 5 co5) 6 co6) 7 co7) 8 co8) 9 co9) 10 co10) 12 co12) 13 co13) 14 co14) 15 co15) 16 co16) 17 co17) 18 co18) 34 f_22) 0 oa_30) 1 ob_31) 33 0))) (va_runV (As := [.long x_67, .long x_68]) (rest := []) ⟨hx, hb, hml, hown, htb⟩ (c_X7_is l dC dI k q (sI (sJ (sJ (sA (sA (sA (sA (sI (sI (sI (sI (sA (sA (sA (sA (sA (sA (sA z 4 co4) 5 co5) 6 co6) 7 co7) 8 co8) 9 co9) 10 co10) 12 co12) 13 co13) 14 co14) 15 co15) 16 co16) 17 co17) 18 co18) 34 f_22) 0 oa_30) 1 ob_31) 33 0) x_67 x_68 _ (show (-4611686018427387904 < x_67.toInt ∧ x_67.toInt < 4611686018427387904) by omega) (show (-4611686018427387904 < x_68.toInt ∧ x_68.toInt < 4611686018427387904) by omega) (show x_68.toInt ≠ 0 by omega)) (cwV 2 htb (gzV wmt4_129 wmt4_131 wmp3_0 wmt1_8 wmt4_132) rfl rfl rfl (by decide +kernel) ⟨Nat.le_of_ble_eq_true rfl, Nat.le_of_ble_eq_true rfl⟩) (zpA_V (ci := 7) (q0 := 0) hK hP (hDa _) rfl rfl) rfl rfl hl.1 rfl (lv_room (Nat.le_of_ble_eq_true rfl)) dX7_givenOf_265 ⟨Nat.le_of_ble_eq_true rfl, Nat.le_of_ble_eq_true rfl⟩) (hDa _) hS hA (fun u_70 H locs w_71 hP _ hS => ?_)
                                  obtain ⟨oa_72, ob_73⟩ := u_70
                                  have hP : va_P (dC, dI) vwCl (zM k q (sJ (sJ (sI (sA (sA (sA (sA (sI (sI (sI (sI (sA (sA (sA (sA (sA (sA (sA z 4 co4) 5 co5) 6 co6) 7 co7) 8 co8) 9 co9) 10 co10) 12 co12) 13 co13) 14 co14) 15 co15) 16 co16) 17 co17) 18 co18) 34 f_22) 33 0) 0 oa_72) 1 ob_73)) H := hP
                                  obtain ⟨h_74, h_75, h_76, h_77, h_78⟩ := w_71
                                  replace h_74 : 1 ≤ ob_73.toInt ∧ ob_73.toInt ≤ (x_68.toInt.natAbs : Int) := h_74
                                  replace h_75 : (oa_72.toInt.natAbs : Int) ≤ (x_67.toInt.natAbs : Int) := h_75
                                  replace h_76 : (0 ≤ x_67.toInt → 0 < x_68.toInt → 0 ≤ oa_72.toInt) ∧ (0 < x_67.toInt → 0 < x_68.toInt → 1 ≤ oa_72.toInt) := h_76
                                  replace h_77 : ob_73.toInt = ((x_68.toInt.natAbs / Nat.gcd x_67.toInt.natAbs x_68.toInt.natAbs : Nat) : Int) := h_77
                                  replace h_78 : oa_72.toInt = x_67.toInt.tdiv (if x_68.toInt < 0 then -(Nat.gcd x_67.toInt.natAbs x_68.toInt.natAbs : Int) else (Nat.gcd x_67.toInt.natAbs x_68.toInt.natAbs : Int)) := h_78
                                  have his0 := h_74
                                  have his1 := h_75
                                  have his2 := h_76
                                  have his3 := h_77
                                  have his4 := h_78
                                  refine lv_aload_n hx hb dX7_givenOf_268 rfl (lv_at hl 7 rfl) ?_
                                  refine va_get (D := (dC, dI)) (ci := 7) (v := .long oa_72) (C := RX7) (T := TX7) (N := 42) hx hb htb inw7 hown hK.1 hP 0 rfl rfl 0 (by decide) (htb _ wmt3_167) (fun _ h9 => h9) rfl dX7_givenOf_269 ?_
                                  refine lv_lstore (lv' := [(4, .long oa_72), (10, .int 1), (9, .int x_8), (8, .int ja), (6, .long bt), (3, .int fu), (2, .int fl), (0, .ref (q 0)), (1, .int pe)]) hx hb dX7_givenOf_272 hl (by decide) rfl (fun ls hl => ?_)
                                  refine lv_aload_n hx hb dX7_givenOf_274 rfl (lv_at hl 7 rfl) ?_
                                  refine va_get (D := (dC, dI)) (ci := 7) (v := .long ob_73) (C := RX7) (T := TX7) (N := 42) hx hb htb inw7 hown hK.1 hP 0 rfl rfl 1 (by decide) (htb _ wmt3_168) (fun _ h9 => h9) rfl dX7_givenOf_275 ?_
                                  refine lv_lstore (lv' := [(6, .long ob_73), (4, .long oa_72), (10, .int 1), (9, .int x_8), (8, .int ja), (3, .int fu), (2, .int fl), (0, .ref (q 0)), (1, .int pe)]) hx hb dX7_givenOf_278 hl (by decide) rfl (fun ls hl => ?_)
                                  refine lv_lload hx hb dX7_givenOf_280 (lv_at hl 1 rfl) ?_
                                  refine lv_ldc2 (v := 1000000000) hx hb hown (htb _ wmt5_48) dX7_givenOf_282 ?_
                                  refine z_lcmp hx hb dX7_givenOf_285 ?_
                                  refine lv_if_gt (tgt := 298) hx hb dX7_givenOf_286 (by decide) (fun c_80 => ?_) (fun c_80 => ?_)
                                  · skip
                                    have hc_80 := zl_gt rfl (show (1000000000 : Int64).toInt = 1000000000 by decide) c_80
                                    refine lv_iconst (v := 1) hx hb dX7_givenOf_298 (by decide) ?_
                                    refine lv_goto (tgt := 303) hx hb dX7_givenOf_299 (by decide) ?_
                                    refine lv_istore_n (lv' := [(3, .int 1), (6, .long ob_73), (4, .long oa_72), (10, .int 1), (9, .int x_8), (8, .int ja), (2, .int fl), (0, .ref (q 0)), (1, .int pe)]) hx hb dX7_givenOf_303 rfl hl (by decide) rfl (fun ls hl => ?_)
                                    obtain ⟨x_81, ex_81⟩ : ∃ y : Int32, y = ja + 1 := ⟨_, rfl⟩
                                    have hx_81 : x_81.toInt = ja.toInt + 1 := z_add ex_81 rfl (show (1 : Int32).toInt = 1 by decide) (by omega)
                                    refine lv_iinc (v := x_81) (lv' := [(8, .int x_81), (3, .int 1), (6, .long ob_73), (4, .long oa_72), (10, .int 1), (9, .int x_8), (2, .int fl), (0, .ref (q 0)), (1, .int pe)]) hx hb dX7_givenOf_304 hl (k := 5) rfl (by rw [ex_81]; rfl) (by decide) rfl (fun ls hl => ?_)
                                    refine lv_goto (tgt := 145) hx hb dX7_givenOf_307 (by decide) ?_
                                    exact ih145 ((120 - x_81.toInt).toNat) (by omega) 1 oa_72 ob_73 x_81 oa_72 ob_73 0 f_22 ⟨(show 0 ≤ x_81.toInt ∧ x_81.toInt ≤ 120 by omega), (show 0 ≤ oa_72.toInt ∧ 1 ≤ ob_73.toInt by omega), (fun q9 => absurd q9 (by decide))⟩ rfl H locs ls hP hS (lv_sub hl [0, 2, 3, 1, 6, 7, 8] rfl)
                                  · skip
                                    have hc_80 := zl_ngt rfl (show (1000000000 : Int64).toInt = 1000000000 by decide) c_80
                                    refine lv_lload hx hb dX7_givenOf_289 (lv_at hl 0 rfl) ?_
                                    refine lv_ldc2 (v := 1000000000) hx hb hown (htb _ wmt5_48) dX7_givenOf_291 ?_
                                    refine z_lcmp hx hb dX7_givenOf_294 ?_
                                    refine lv_if_le (tgt := 302) hx hb dX7_givenOf_295 (by decide) (fun c_82 => ?_) (fun c_82 => ?_)
                                    · skip
                                      have hc_82 := zl_le rfl (show (1000000000 : Int64).toInt = 1000000000 by decide) c_82
                                      refine lv_iconst (v := 0) hx hb dX7_givenOf_302 (by decide) ?_
                                      refine lv_istore_n (lv' := [(3, .int 0), (6, .long ob_73), (4, .long oa_72), (10, .int 1), (9, .int x_8), (8, .int ja), (2, .int fl), (0, .ref (q 0)), (1, .int pe)]) hx hb dX7_givenOf_303 rfl hl (by decide) rfl (fun ls hl => ?_)
                                      obtain ⟨x_83, ex_83⟩ : ∃ y : Int32, y = ja + 1 := ⟨_, rfl⟩
                                      have hx_83 : x_83.toInt = ja.toInt + 1 := z_add ex_83 rfl (show (1 : Int32).toInt = 1 by decide) (by omega)
                                      refine lv_iinc (v := x_83) (lv' := [(8, .int x_83), (3, .int 0), (6, .long ob_73), (4, .long oa_72), (10, .int 1), (9, .int x_8), (2, .int fl), (0, .ref (q 0)), (1, .int pe)]) hx hb dX7_givenOf_304 hl (k := 5) rfl (by rw [ex_83]; rfl) (by decide) rfl (fun ls hl => ?_)
                                      refine lv_goto (tgt := 145) hx hb dX7_givenOf_307 (by decide) ?_
                                      exact ih145 ((120 - x_83.toInt).toNat) (by omega) 0 oa_72 ob_73 x_83 oa_72 ob_73 0 f_22 ⟨(show 0 ≤ x_83.toInt ∧ x_83.toInt ≤ 120 by omega), (show 0 ≤ oa_72.toInt ∧ 1 ≤ ob_73.toInt by omega), (fun q9 => by omega)⟩ rfl H locs ls hP hS (lv_sub hl [0, 2, 3, 1, 6, 7, 8] rfl)
                                    · skip
                                      have hc_82 := zl_nle rfl (show (1000000000 : Int64).toInt = 1000000000 by decide) c_82
                                      refine lv_iconst (v := 1) hx hb dX7_givenOf_298 (by decide) ?_
                                      refine lv_goto (tgt := 303) hx hb dX7_givenOf_299 (by decide) ?_
                                      refine lv_istore_n (lv' := [(3, .int 1), (6, .long ob_73), (4, .long oa_72), (10, .int 1), (9, .int x_8), (8, .int ja), (2, .int fl), (0, .ref (q 0)), (1, .int pe)]) hx hb dX7_givenOf_303 rfl hl (by decide) rfl (fun ls hl => ?_)
                                      obtain ⟨x_84, ex_84⟩ : ∃ y : Int32, y = ja + 1 := ⟨_, rfl⟩
                                      have hx_84 : x_84.toInt = ja.toInt + 1 := z_add ex_84 rfl (show (1 : Int32).toInt = 1 by decide) (by omega)
                                      refine lv_iinc (v := x_84) (lv' := [(8, .int x_84), (3, .int 1), (6, .long ob_73), (4, .long oa_72), (10, .int 1), (9, .int x_8), (2, .int fl), (0, .ref (q 0)), (1, .int pe)]) hx hb dX7_givenOf_304 hl (k := 5) rfl (by rw [ex_84]; rfl) (by decide) rfl (fun ls hl => ?_)
                                      refine lv_goto (tgt := 145) hx hb dX7_givenOf_307 (by decide) ?_
                                      exact ih145 ((120 - x_84.toInt).toNat) (by omega) 1 oa_72 ob_73 x_84 oa_72 ob_73 0 f_22 ⟨(show 0 ≤ x_84.toInt ∧ x_84.toInt ≤ 120 by omega), (show 0 ≤ oa_72.toInt ∧ 1 ≤ ob_73.toInt by omega), (fun q9 => absurd q9 (by decide))⟩ rfl H locs ls hP hS (lv_sub hl [0, 2, 3, 1, 6, 7, 8] rfl)
                            · skip
                              exact absurd c_63 (by decide)
                        · skip
                          replace e_40 : r_27 = 0 := e_40
                          subst e_40
                          replace h_37 : oa_30 = ja0 := h_37
                          replace h_38 : ob_31 = jb0 := h_38
                          replace h_39 : (if x_26.toInt = 1 then yI (co7 x_8.toNatClampNeg) (co8 x_8.toNatClampNeg) (co9 x_8.toNatClampNeg) (co10 x_8.toNatClampNeg) ((z.1 11)) 0 else 24 * (co6 x_8.toNatClampNeg).toInt - yI (co7 x_8.toNatClampNeg) (co8 x_8.toNatClampNeg) (co9 x_8.toNatClampNeg) (co10 x_8.toNatClampNeg) ((z.1 11)) 0) = 0 := h_39
                          refine lv_istore (lv' := [(10, .int 0), (9, .int x_8), (8, .int ja), (6, .long bt), (4, .long tp), (3, .int fu), (2, .int fl), (0, .ref (q 0)), (1, .int pe)]) hx hb dX7_givenOf_218 hl (by decide) rfl (fun ls hl => ?_)
                          refine lv_aload_n hx hb dX7_givenOf_220 rfl (lv_at hl 7 rfl) ?_
                          refine lv_aload_n hx hb dX7_givenOf_221 rfl (lv_at hl 7 rfl) ?_
                          refine va_get (D := (dC, dI)) (ci := 7) (v := .int nn0) (C := RX7) (T := TX7) (N := 42) hx hb htb inw7 hown hK.1 hP 0 rfl rfl 33 (by decide) (htb _ wmt3_200) (fun _ h9 => h9) rfl dX7_givenOf_222 ?_
                          refine lv_if_ne (tgt := 233) hx hb dX7_givenOf_225 (by decide) (fun c_85 => ?_) (fun c_85 => ?_)
                          · skip
                            have hc_85 := zb_ne rfl (show (0 : Int32).toInt = 0 by decide) c_85
                            refine lv_iconst (v := 1) hx hb dX7_givenOf_233 (by decide) ?_
                            refine lv_goto (tgt := 238) hx hb dX7_givenOf_234 (by decide) ?_
                            refine va_put (D := (dC, dI)) (ci := 7) (v := .int 1) (ty := .boolean) (C := RX7) (T := TX7) (N := 42) hx hb htb inw7 tyX7 tyX7_ok nmX7 hown hK.1 hP (hDa _) hS 0 rfl rfl 33 (by decide) (htb _ wmt3_200) (fun _ h9 => h9) rfl (by decide +kernel) rfl rfl (Nat.le_of_ble_eq_true rfl) dX7_givenOf_238 (fun H locs hP _ hS => ?_)
                            have hP : va_P (dC, dI) vwCl (zM k q (sI (sJ (sJ (sA (sA (sA (sA (sI (sI (sI (sI (sA (sA (sA (sA (sA (sA (sA z 4 co4) 5 co5) 6 co6) 7 co7) 8 co8) 9 co9) 10 co10) 12 co12) 13 co13) 14 co14) 15 co15) 16 co16) 17 co17) 18 co18) 34 f_22) 0 oa_30) 1 ob_31) 33 1)) H := hP
                            refine lv_iload hx hb dX7_givenOf_241 (lv_at hl 0 rfl) ?_
                            refine lv_if_eq (tgt := 304) hx hb dX7_givenOf_243 (by decide) (fun c_86 => ?_) (fun c_86 => ?_)
                            · skip
                              obtain ⟨x_87, ex_87⟩ : ∃ y : Int32, y = ja + 1 := ⟨_, rfl⟩
                              have hx_87 : x_87.toInt = ja.toInt + 1 := z_add ex_87 rfl (show (1 : Int32).toInt = 1 by decide) (by omega)
                              refine lv_iinc (v := x_87) (lv' := [(8, .int x_87), (10, .int 0), (9, .int x_8), (6, .long bt), (4, .long tp), (3, .int fu), (2, .int fl), (0, .ref (q 0)), (1, .int pe)]) hx hb dX7_givenOf_304 hl (k := 2) rfl (by rw [ex_87]; rfl) (by decide) rfl (fun ls hl => ?_)
                              refine lv_goto (tgt := 145) hx hb dX7_givenOf_307 (by decide) ?_
                              exact ih145 ((120 - x_87.toInt).toNat) (by omega) fu tp bt x_87 oa_30 ob_31 1 f_22 ⟨(show 0 ≤ x_87.toInt ∧ x_87.toInt ≤ 120 by omega), (show 0 ≤ tp.toInt ∧ 1 ≤ bt.toInt by omega), (fun q9 => by omega)⟩ rfl H locs ls hP hS (lv_sub hl [0, 3, 4, 5, 6, 7, 8] rfl)
                            · skip
                              exact absurd (by decide) c_86
                          · skip
                            have hc_85 := zb_eq rfl (show (0 : Int32).toInt = 0 by decide) c_85
                            refine lv_iload hx hb dX7_givenOf_228 (lv_at hl 0 rfl) ?_
                            refine lv_if_ne (tgt := 237) hx hb dX7_givenOf_230 (by decide) (fun c_88 => ?_) (fun c_88 => ?_)
                            · skip
                              exact absurd c_88 (by decide)
                            · skip
                              refine lv_iconst (v := 1) hx hb dX7_givenOf_233 (by decide) ?_
                              refine lv_goto (tgt := 238) hx hb dX7_givenOf_234 (by decide) ?_
                              refine va_put (D := (dC, dI)) (ci := 7) (v := .int 1) (ty := .boolean) (C := RX7) (T := TX7) (N := 42) hx hb htb inw7 tyX7 tyX7_ok nmX7 hown hK.1 hP (hDa _) hS 0 rfl rfl 33 (by decide) (htb _ wmt3_200) (fun _ h9 => h9) rfl (by decide +kernel) rfl rfl (Nat.le_of_ble_eq_true rfl) dX7_givenOf_238 (fun H locs hP _ hS => ?_)
                              have hP : va_P (dC, dI) vwCl (zM k q (sI (sJ (sJ (sA (sA (sA (sA (sI (sI (sI (sI (sA (sA (sA (sA (sA (sA (sA z 4 co4) 5 co5) 6 co6) 7 co7) 8 co8) 9 co9) 10 co10) 12 co12) 13 co13) 14 co14) 15 co15) 16 co16) 17 co17) 18 co18) 34 f_22) 0 oa_30) 1 ob_31) 33 1)) H := hP
                              refine lv_iload hx hb dX7_givenOf_241 (lv_at hl 0 rfl) ?_
                              refine lv_if_eq (tgt := 304) hx hb dX7_givenOf_243 (by decide) (fun c_89 => ?_) (fun c_89 => ?_)
                              · skip
                                obtain ⟨x_90, ex_90⟩ : ∃ y : Int32, y = ja + 1 := ⟨_, rfl⟩
                                have hx_90 : x_90.toInt = ja.toInt + 1 := z_add ex_90 rfl (show (1 : Int32).toInt = 1 by decide) (by omega)
                                refine lv_iinc (v := x_90) (lv' := [(8, .int x_90), (10, .int 0), (9, .int x_8), (6, .long bt), (4, .long tp), (3, .int fu), (2, .int fl), (0, .ref (q 0)), (1, .int pe)]) hx hb dX7_givenOf_304 hl (k := 2) rfl (by rw [ex_90]; rfl) (by decide) rfl (fun ls hl => ?_)
                                refine lv_goto (tgt := 145) hx hb dX7_givenOf_307 (by decide) ?_
                                exact ih145 ((120 - x_90.toInt).toNat) (by omega) fu tp bt x_90 oa_30 ob_31 1 f_22 ⟨(show 0 ≤ x_90.toInt ∧ x_90.toInt ≤ 120 by omega), (show 0 ≤ tp.toInt ∧ 1 ≤ bt.toInt by omega), (fun q9 => by omega)⟩ rfl H locs ls hP hS (lv_sub hl [0, 3, 4, 5, 6, 7, 8] rfl)
                              · skip
                                exact absurd (by decide) c_89
                  · skip
                    replace e_18 : r_12 = 0 := e_18
                    subst e_18
                    replace h_17 : ¬ kn (sA (sI (sJ (sJ (sA (sA (sA (sI (sI (sI (sI (sA (sA (sA (sA (sA (sA (sA z 4 co4) 5 co5) 6 co6) 7 co7) 8 co8) 9 co9) 10 co10) 12 co12) 13 co13) 14 co14) 15 co15) 16 co16) 17 co17) 18 co18) 0 ja0) 1 jb0) 33 nn0) 34 ct2) ja.toNatClampNeg := h_17
                    refine lv_if_eq (tgt := 304) hx hb dX7_givenOf_180 (by decide) (fun c_91 => ?_) (fun c_91 => ?_)
                    · skip
                      obtain ⟨x_92, ex_92⟩ : ∃ y : Int32, y = ja + 1 := ⟨_, rfl⟩
                      have hx_92 : x_92.toInt = ja.toInt + 1 := z_add ex_92 rfl (show (1 : Int32).toInt = 1 by decide) (by omega)
                      refine lv_iinc (v := x_92) (lv' := [(8, .int x_92), (9, .int x_8), (6, .long bt), (4, .long tp), (3, .int fu), (2, .int fl), (0, .ref (q 0)), (1, .int pe)]) hx hb dX7_givenOf_304 hl (k := 1) rfl (by rw [ex_92]; rfl) (by decide) rfl (fun ls hl => ?_)
                      refine lv_goto (tgt := 145) hx hb dX7_givenOf_307 (by decide) ?_
                      exact ih145 ((120 - x_92.toInt).toNat) (by omega) fu tp bt x_92 ja0 jb0 nn0 ct2 ⟨(show 0 ≤ x_92.toInt ∧ x_92.toInt ≤ 120 by omega), (show 0 ≤ tp.toInt ∧ 1 ≤ bt.toInt by omega), (fun q9 => by omega)⟩ rfl H locs ls hP hS (lv_sub hl [0, 2, 3, 4, 5, 6, 7] rfl)
                    · skip
                      exact absurd (by decide) c_91
          · skip
            have hc_3 := zb_nle (show (4 : Int32).toInt = 4 by decide) rfl c_3
            refine lv_aload_n hx hb dX7_givenOf_128 rfl (lv_at hl 5 rfl) ?_
            refine va_get (D := (dC, dI)) (ci := 7) (v := .ref (q 34)) (C := RX7) (T := TX7) (N := 42) hx hb htb inw7 hown hK.1 hP 0 rfl rfl 34 (by decide) (htb _ wmt3_201) (fun _ h9 => h9) rfl dX7_givenOf_129 ?_
            refine lv_iload hx hb dX7_givenOf_132 (lv_at hl 0 rfl) ?_
            refine lv_iconst (v := 0) hx hb dX7_givenOf_134 (by decide) ?_
            refine va_iast (D := (dC, dI)) hx hb hK.1 hP (hDa _) hS 19 0 rfl rfl (z_in (by omega)) dX7_givenOf_135 (fun H locs hP _ hS => ?_)
            obtain ⟨f_93, ef_93⟩ : ∃ x : Nat → Int32, x = upd ct jc.toNatClampNeg 0 := ⟨_, rfl⟩
            have hP : va_P (dC, dI) vwCl (zM k q (sA (sA (sA (sA (sI (sI (sI (sI (sA (sA (sA (sA (sA (sA (sA (sI z 33 0) 4 co4) 5 co5) 6 co6) 7 co7) 8 co8) 9 co9) 10 co10) 12 co12) 13 co13) 14 co14) 15 co15) 16 co16) 17 co17) 18 co18) 34 f_93)) H := by rw [ef_93]; exact hP
            obtain ⟨x_94, ex_94⟩ : ∃ y : Int32, y = jc + 1 := ⟨_, rfl⟩
            have hx_94 : x_94.toInt = jc.toInt + 1 := z_add ex_94 rfl (show (1 : Int32).toInt = 1 by decide) (by omega)
            refine lv_iinc (v := x_94) (lv' := [(8, .int x_94), (6, .long 1), (4, .long 1), (3, .int 0), (2, .int fl), (0, .ref (q 0)), (1, .int pe)]) hx hb dX7_givenOf_136 hl (k := 0) rfl (by rw [ex_94]; rfl) (by decide) rfl (fun ls hl => ?_)
            refine lv_goto (tgt := 122) hx hb dX7_givenOf_139 (by decide) ?_
            exact ih122 ((4 - x_94.toInt).toNat) (by omega) x_94 f_93 (show 0 ≤ x_94.toInt ∧ x_94.toInt ≤ 4 by omega) rfl H locs ls hP hS (lv_sub hl [0, 1, 2, 3, 4, 5, 6] rfl)
      · skip
        have hc_2 := zb_ne rfl (show (0 : Int32).toInt = 0 by decide) c_2
        refine lv_bipush (v := (-3)) hx hb dX7_givenOf_116 (by decide) ?_
        exact W.iret (v := (-3)) hx hb hr (fun t ht hW => ⟨⟨(-3), (co4, co5, co6, co7, co8, co9, co10, co12, co13, co14, co15, co16, co17, co18, z.2.1 0, z.2.1 1, 0, z.2.2.1 34), rfl, (show (MD (FR (z.2.2.1 2) (z.2.2.1 3)) co4 co5 co6 co7 co8 co9 co10) ∧ (((-3) : Int32).toInt = 0 → (0 ≤ (z.2.1 0).toInt ∧ (z.2.1 0).toInt ≤ 1000000000) ∧ (1 ≤ (z.2.1 1).toInt ∧ (z.2.1 1).toInt ≤ 1000000000)) ∧ (RK (z.2.2.1 4) (z.2.2.1 5) co4 co5) from ⟨hI.2.2.2.2.2, fun q9 => absurd q9 (by decide), hrk1⟩), ⟨by rw [ht]; exact hP, hDa _⟩⟩, hS.F ht⟩) hS.2.2 dX7_givenOf_118
    · skip
      have hc_1 := zb_nle (show (4 : Int32).toInt = 4 by decide) rfl c_1
      refine lv_iconst (v := 0) hx hb dX7_givenOf_24 (by decide) ?_
      refine lv_istore (lv' := [(9, .int 0), (8, .int dd), (6, .long 1), (4, .long 1), (3, .int 0), (2, .int fl), (0, .ref (q 0)), (1, .int pe)]) hx hb dX7_givenOf_25 hl (by decide) rfl (fun ls hl => ?_)
      obtain ⟨fm, efm⟩ : ∃ x : Int32, fl = x := ⟨_, rfl⟩
      obtain ⟨a2, ea2⟩ : ∃ x : Int32, 0 = x := ⟨_, rfl⟩
      obtain ⟨go4, ego4⟩ : ∃ x : Nat → Int32, co4 = x := ⟨_, rfl⟩
      obtain ⟨go5, ego5⟩ : ∃ x : Nat → Int32, co5 = x := ⟨_, rfl⟩
      obtain ⟨go6, ego6⟩ : ∃ x : Nat → Int32, co6 = x := ⟨_, rfl⟩
      obtain ⟨go7, ego7⟩ : ∃ x : Nat → Int32, co7 = x := ⟨_, rfl⟩
      obtain ⟨go8, ego8⟩ : ∃ x : Nat → Int32, co8 = x := ⟨_, rfl⟩
      obtain ⟨go9, ego9⟩ : ∃ x : Nat → Int32, co9 = x := ⟨_, rfl⟩
      obtain ⟨go10, ego10⟩ : ∃ x : Nat → Int32, co10 = x := ⟨_, rfl⟩
      obtain ⟨go12, ego12⟩ : ∃ x : Int32, co12 = x := ⟨_, rfl⟩
      obtain ⟨go13, ego13⟩ : ∃ x : Int32, co13 = x := ⟨_, rfl⟩
      obtain ⟨go14, ego14⟩ : ∃ x : Int32, co14 = x := ⟨_, rfl⟩
      obtain ⟨go15, ego15⟩ : ∃ x : Int32, co15 = x := ⟨_, rfl⟩
      obtain ⟨go16, ego16⟩ : ∃ x : Nat → Int32, co16 = x := ⟨_, rfl⟩
      obtain ⟨go17, ego17⟩ : ∃ x : Nat → Int32, co17 = x := ⟨_, rfl⟩
      obtain ⟨go18, ego18⟩ : ∃ x : Nat → Int32, co18 = x := ⟨_, rfl⟩
      have hv27 : (0 ≤ a2.toInt ∧ a2.toInt ≤ (z.1 22).toInt) ∧ (MInv (sA (sA (sA (sI (sI (sI (sI (sA (sA (sA (sA (sA (sA (sA (sI z 33 0) 4 go4) 5 go5) 6 go6) 7 go7) 8 go8) 9 go9) 10 go10) 12 go12) 13 go13) 14 go14) 15 go15) 16 go16) 17 go17) 18 go18)) ∧ (RK (z.2.2.1 4) (z.2.2.1 5) go4 go5) ∧ (fm.toInt = 0 → GI z pe go4 go5 dd.toInt a2.toInt) := by subst efm ea2 ego4 ego5 ego6 ego7 ego8 ego9 ego10 ego12 ego13 ego14 ego15 ego16 ego17 ego18; exact ⟨⟨by decide, ha0⟩, hI, hrk1, hgi1⟩
      replace hl : lv_has ls 11 [(9, .int a2), (8, .int dd), (6, .long 1), (4, .long 1), (3, .int 0), (2, .int fm), (0, .ref (q 0)), (1, .int pe)] := by subst efm ea2 ego4 ego5 ego6 ego7 ego8 ego9 ego10 ego12 ego13 ego14 ego15 ego16 ego17 ego18; exact hl
      replace hP : va_P (dC, dI) vwCl (zM k q (sA (sA (sA (sI (sI (sI (sI (sA (sA (sA (sA (sA (sA (sA (sI z 33 0) 4 go4) 5 go5) 6 go6) 7 go7) 8 go8) 9 go9) 10 go10) 12 go12) 13 go13) 14 go14) 15 go15) 16 go16) 17 go17) 18 go18)) H := by subst ego4 ego5 ego6 ego7 ego8 ego9 ego10 ego12 ego13 ego14 ego15 ego16 ego17 ego18; exact hP
      clear efm ea2 ego4 ego5 ego6 ego7 ego8 ego9 ego10 ego12 ego13 ego14 ego15 ego16 ego17 ego18
      obtain ⟨mm27, hm27⟩ : ∃ mm : Nat, mm = (120 - a2.toInt).toNat := ⟨_, rfl⟩
      refine z_cut2 hP hS hl ?_
      clear hl hP
      intro H locs ls hP hS hl
      induction mm27 using Nat.strongRecOn generalizing fm a2 go4 go5 go6 go7 go8 go9 go10 go12 go13 go14 go15 go16 go17 go18 H locs ls with
      | _ mm27 ih27 =>
        obtain ⟨ha2, hI2, hrk2, hgi2⟩ := hv27
        have hI := hI2
        refine lv_iload hx hb dX7_givenOf_27 (lv_at hl 0 rfl) ?_
        refine lv_aload_n hx hb dX7_givenOf_29 rfl (lv_at hl 6 rfl) ?_
        refine va_get (D := (dC, dI)) (ci := 7) (v := .int (z.1 22)) (C := RX7) (T := TX7) (N := 42) hx hb htb inw7 hown hK.1 hP 0 rfl rfl 22 (by decide) (htb _ wmt3_189) (fun _ h9 => h9) rfl dX7_givenOf_30 ?_
        refine lv_topi (fun x_95 ex_95 => ?_)
        have hx_95 : x_95.toInt = (z.1 22).toInt := by rw [ex_95]
        refine lv_icmp_ge (tgt := 106) hx hb dX7_givenOf_33 (by decide) (fun c_96 => ?_) (fun c_96 => ?_)
        · skip
          have hc_96 := zb_le rfl rfl c_96
          obtain ⟨x_97, ex_97⟩ : ∃ y : Int32, y = dd + 1 := ⟨_, rfl⟩
          have hx_97 : x_97.toInt = dd.toInt + 1 := z_add ex_97 rfl (show (1 : Int32).toInt = 1 by decide) (by omega)
          refine lv_iinc (v := x_97) (lv' := [(8, .int x_97), (9, .int a2), (6, .long 1), (4, .long 1), (3, .int 0), (2, .int fm), (0, .ref (q 0)), (1, .int pe)]) hx hb dX7_givenOf_106 hl (k := 1) rfl (by rw [ex_97]; rfl) (by decide) rfl (fun ls hl => ?_)
          refine lv_goto (tgt := 18) hx hb dX7_givenOf_109 (by decide) ?_
          exact ih18 ((4 - x_97.toInt).toNat) (by omega) fm x_97 go4 go5 go6 go7 go8 go9 go10 go12 go13 go14 go15 go16 go17 go18 ⟨(show 0 ≤ x_97.toInt ∧ x_97.toInt ≤ 4 by omega), hI, hrk2, (fun q9 => GI_next (hgi2 q9) (by omega) hx_97)⟩ rfl H locs ls hP hS (lv_sub hl [0, 2, 3, 4, 5, 6, 7] rfl)
        · skip
          have hc_96 := zb_nle rfl rfl c_96
          refine lv_aload_n hx hb dX7_givenOf_36 rfl (lv_at hl 6 rfl) ?_
          refine va_get (D := (dC, dI)) (ci := 7) (v := .ref (q 23)) (C := RX7) (T := TX7) (N := 42) hx hb htb inw7 hown hK.1 hP 0 rfl rfl 23 (by decide) (htb _ wmt3_190) (fun _ h9 => h9) rfl dX7_givenOf_37 ?_
          refine lv_iload hx hb dX7_givenOf_40 (lv_at hl 0 rfl) ?_
          refine va_iald (D := (dC, dI)) hx hb hK.1 hP 14 0 rfl rfl (z_in (by omega)) dX7_givenOf_42 ?_
          refine lv_topi (fun x_98 ex_98 => ?_)
          replace ex_98 : x_98 = (z.2.2.1 23) a2.toNatClampNeg := ex_98
          refine lv_iload_n hx hb dX7_givenOf_43 rfl (lv_at hl 7 rfl) ?_
          refine lv_icmp_ne (tgt := 72) hx hb dX7_givenOf_44 (by decide) (fun c_99 => ?_) (fun c_99 => ?_)
          · skip
            have hc_99 := zb_ne rfl rfl c_99
            have hbyn : ¬ x_98 = pe := fun q => hc_99 (by rw [q])
            refine lv_iconst (v := 0) hx hb dX7_givenOf_72 (by decide) ?_
            refine lv_istore (lv' := [(10, .int 0), (9, .int a2), (8, .int dd), (6, .long 1), (4, .long 1), (3, .int 0), (2, .int fm), (0, .ref (q 0)), (1, .int pe)]) hx hb dX7_givenOf_73 hl (by decide) rfl (fun ls hl => ?_)
            refine lv_iload_n hx hb dX7_givenOf_75 rfl (lv_at hl 6 rfl) ?_
            refine lv_if_ne (tgt := 94) hx hb dX7_givenOf_76 (by decide) (fun c_100 => ?_) (fun c_100 => ?_)
            · skip
              have hc_100 := zb_ne rfl (show (0 : Int32).toInt = 0 by decide) c_100
              refine lv_iconst (v := 1) hx hb dX7_givenOf_94 (by decide) ?_
              refine lv_goto (tgt := 99) hx hb dX7_givenOf_95 (by decide) ?_
              refine lv_istore_n (lv' := [(2, .int 1), (10, .int 0), (9, .int a2), (8, .int dd), (6, .long 1), (4, .long 1), (3, .int 0), (0, .ref (q 0)), (1, .int pe)]) hx hb dX7_givenOf_99 rfl hl (by decide) rfl (fun ls hl => ?_)
              obtain ⟨x_101, ex_101⟩ : ∃ y : Int32, y = a2 + 1 := ⟨_, rfl⟩
              have hx_101 : x_101.toInt = a2.toInt + 1 := z_add ex_101 rfl (show (1 : Int32).toInt = 1 by decide) (by omega)
              refine lv_iinc (v := x_101) (lv' := [(9, .int x_101), (2, .int 1), (10, .int 0), (8, .int dd), (6, .long 1), (4, .long 1), (3, .int 0), (0, .ref (q 0)), (1, .int pe)]) hx hb dX7_givenOf_100 hl (k := 2) rfl (by rw [ex_101]; rfl) (by decide) rfl (fun ls hl => ?_)
              refine lv_goto (tgt := 27) hx hb dX7_givenOf_103 (by decide) ?_
              exact ih27 ((120 - x_101.toInt).toNat) (by omega) 1 x_101 go4 go5 go6 go7 go8 go9 go10 go12 go13 go14 go15 go16 go17 go18 ⟨(show 0 ≤ x_101.toInt ∧ x_101.toInt ≤ (z.1 22).toInt by omega), hI, hrk2, (fun q9 => absurd q9 (by decide))⟩ rfl H locs ls hP hS (lv_sub hl [0, 3, 4, 5, 6, 1, 7, 8] rfl)
            · skip
              have hc_100 := zb_eq rfl (show (0 : Int32).toInt = 0 by decide) c_100
              refine lv_iload hx hb dX7_givenOf_79 (lv_at hl 0 rfl) ?_
              refine lv_if_eq (tgt := 98) hx hb dX7_givenOf_81 (by decide) (fun c_102 => ?_) (fun c_102 => ?_)
              · skip
                refine lv_iconst (v := 0) hx hb dX7_givenOf_98 (by decide) ?_
                refine lv_istore_n (lv' := [(2, .int 0), (10, .int 0), (9, .int a2), (8, .int dd), (6, .long 1), (4, .long 1), (3, .int 0), (0, .ref (q 0)), (1, .int pe)]) hx hb dX7_givenOf_99 rfl hl (by decide) rfl (fun ls hl => ?_)
                obtain ⟨x_103, ex_103⟩ : ∃ y : Int32, y = a2 + 1 := ⟨_, rfl⟩
                have hx_103 : x_103.toInt = a2.toInt + 1 := z_add ex_103 rfl (show (1 : Int32).toInt = 1 by decide) (by omega)
                refine lv_iinc (v := x_103) (lv' := [(9, .int x_103), (2, .int 0), (10, .int 0), (8, .int dd), (6, .long 1), (4, .long 1), (3, .int 0), (0, .ref (q 0)), (1, .int pe)]) hx hb dX7_givenOf_100 hl (k := 2) rfl (by rw [ex_103]; rfl) (by decide) rfl (fun ls hl => ?_)
                refine lv_goto (tgt := 27) hx hb dX7_givenOf_103 (by decide) ?_
                exact ih27 ((120 - x_103.toInt).toNat) (by omega) 0 x_103 go4 go5 go6 go7 go8 go9 go10 go12 go13 go14 go15 go16 go17 go18 ⟨(show 0 ≤ x_103.toInt ∧ x_103.toInt ≤ (z.1 22).toInt by omega), hI, hrk2, (fun _ => GI_skip (hgi2 (by omega)) ha2.1 (fun q1 _ _ => hbyn (by rw [ex_98, q1])) hx_103)⟩ rfl H locs ls hP hS (lv_sub hl [0, 3, 4, 5, 6, 1, 7, 8] rfl)
              · skip
                exact absurd (by decide) c_102
          · skip
            have hc_99 := zb_eq rfl rfl c_99
            refine lv_aload_n hx hb dX7_givenOf_47 rfl (lv_at hl 6 rfl) ?_
            refine va_get (D := (dC, dI)) (ci := 7) (v := .ref (q 24)) (C := RX7) (T := TX7) (N := 42) hx hb htb inw7 hown hK.1 hP 0 rfl rfl 24 (by decide) (htb _ wmt3_191) (fun _ h9 => h9) rfl dX7_givenOf_48 ?_
            refine lv_iload hx hb dX7_givenOf_51 (lv_at hl 0 rfl) ?_
            refine va_iald (D := (dC, dI)) hx hb hK.1 hP 15 0 rfl rfl (z_in (by omega)) dX7_givenOf_53 ?_
            refine lv_topi (fun x_104 ex_104 => ?_)
            replace ex_104 : x_104 = (z.2.2.1 24) a2.toNatClampNeg := ex_104
            have hx_104 : x_104.toInt = ((z.2.2.1 24) a2.toNatClampNeg).toInt := by rw [ex_104]
            refine lv_iload hx hb dX7_givenOf_54 (lv_at hl 1 rfl) ?_
            refine lv_icmp_ne (tgt := 72) hx hb dX7_givenOf_56 (by decide) (fun c_105 => ?_) (fun c_105 => ?_)
            · skip
              have hc_105 := zb_ne rfl rfl c_105
              refine lv_iconst (v := 0) hx hb dX7_givenOf_72 (by decide) ?_
              refine lv_istore (lv' := [(10, .int 0), (9, .int a2), (8, .int dd), (6, .long 1), (4, .long 1), (3, .int 0), (2, .int fm), (0, .ref (q 0)), (1, .int pe)]) hx hb dX7_givenOf_73 hl (by decide) rfl (fun ls hl => ?_)
              refine lv_iload_n hx hb dX7_givenOf_75 rfl (lv_at hl 6 rfl) ?_
              refine lv_if_ne (tgt := 94) hx hb dX7_givenOf_76 (by decide) (fun c_106 => ?_) (fun c_106 => ?_)
              · skip
                have hc_106 := zb_ne rfl (show (0 : Int32).toInt = 0 by decide) c_106
                refine lv_iconst (v := 1) hx hb dX7_givenOf_94 (by decide) ?_
                refine lv_goto (tgt := 99) hx hb dX7_givenOf_95 (by decide) ?_
                refine lv_istore_n (lv' := [(2, .int 1), (10, .int 0), (9, .int a2), (8, .int dd), (6, .long 1), (4, .long 1), (3, .int 0), (0, .ref (q 0)), (1, .int pe)]) hx hb dX7_givenOf_99 rfl hl (by decide) rfl (fun ls hl => ?_)
                obtain ⟨x_107, ex_107⟩ : ∃ y : Int32, y = a2 + 1 := ⟨_, rfl⟩
                have hx_107 : x_107.toInt = a2.toInt + 1 := z_add ex_107 rfl (show (1 : Int32).toInt = 1 by decide) (by omega)
                refine lv_iinc (v := x_107) (lv' := [(9, .int x_107), (2, .int 1), (10, .int 0), (8, .int dd), (6, .long 1), (4, .long 1), (3, .int 0), (0, .ref (q 0)), (1, .int pe)]) hx hb dX7_givenOf_100 hl (k := 2) rfl (by rw [ex_107]; rfl) (by decide) rfl (fun ls hl => ?_)
                refine lv_goto (tgt := 27) hx hb dX7_givenOf_103 (by decide) ?_
                exact ih27 ((120 - x_107.toInt).toNat) (by omega) 1 x_107 go4 go5 go6 go7 go8 go9 go10 go12 go13 go14 go15 go16 go17 go18 ⟨(show 0 ≤ x_107.toInt ∧ x_107.toInt ≤ (z.1 22).toInt by omega), hI, hrk2, (fun q9 => absurd q9 (by decide))⟩ rfl H locs ls hP hS (lv_sub hl [0, 3, 4, 5, 6, 1, 7, 8] rfl)
              · skip
                have hc_106 := zb_eq rfl (show (0 : Int32).toInt = 0 by decide) c_106
                refine lv_iload hx hb dX7_givenOf_79 (lv_at hl 0 rfl) ?_
                refine lv_if_eq (tgt := 98) hx hb dX7_givenOf_81 (by decide) (fun c_108 => ?_) (fun c_108 => ?_)
                · skip
                  refine lv_iconst (v := 0) hx hb dX7_givenOf_98 (by decide) ?_
                  refine lv_istore_n (lv' := [(2, .int 0), (10, .int 0), (9, .int a2), (8, .int dd), (6, .long 1), (4, .long 1), (3, .int 0), (0, .ref (q 0)), (1, .int pe)]) hx hb dX7_givenOf_99 rfl hl (by decide) rfl (fun ls hl => ?_)
                  obtain ⟨x_109, ex_109⟩ : ∃ y : Int32, y = a2 + 1 := ⟨_, rfl⟩
                  have hx_109 : x_109.toInt = a2.toInt + 1 := z_add ex_109 rfl (show (1 : Int32).toInt = 1 by decide) (by omega)
                  refine lv_iinc (v := x_109) (lv' := [(9, .int x_109), (2, .int 0), (10, .int 0), (8, .int dd), (6, .long 1), (4, .long 1), (3, .int 0), (0, .ref (q 0)), (1, .int pe)]) hx hb dX7_givenOf_100 hl (k := 2) rfl (by rw [ex_109]; rfl) (by decide) rfl (fun ls hl => ?_)
                  refine lv_goto (tgt := 27) hx hb dX7_givenOf_103 (by decide) ?_
                  exact ih27 ((120 - x_109.toInt).toNat) (by omega) 0 x_109 go4 go5 go6 go7 go8 go9 go10 go12 go13 go14 go15 go16 go17 go18 ⟨(show 0 ≤ x_109.toInt ∧ x_109.toInt ≤ (z.1 22).toInt by omega), hI, hrk2, (fun _ => GI_skip (hgi2 (by omega)) ha2.1 (fun _ _ q3 => hc_105 (by omega)) hx_109)⟩ rfl H locs ls hP hS (lv_sub hl [0, 3, 4, 5, 6, 1, 7, 8] rfl)
                · skip
                  exact absurd (by decide) c_108
            · skip
              have hc_105 := zb_eq rfl rfl c_105
              refine lv_aload_n hx hb dX7_givenOf_59 rfl (lv_at hl 6 rfl) ?_
              refine lv_iload hx hb dX7_givenOf_60 (lv_at hl 0 rfl) ?_
              refine zcA_i (w := (zM k q (sA (sA (sA (sI (sI (sI (sI (sA (sA (sA (sA (sA (sA (sA (sI z 33 0) 4 go4) 5 go5) 6 go6) 7 go7) 8 go8) 9 go9) 10 go10) 12 go12) 13 go13) 14 go14) 15 go15) 16 go16) 17 go17) 18 go18))) (va_runV (As := [.int a2]) (rest := []) ⟨hx, hb, hml, hown, htb⟩ (c_X7_isKnown l dC dI k q (sA (sA (sA (sI (sI (sI (sI (sA (sA (sA (sA (sA (sA (sA (sI z 33 0) 4 go4) 5 go5) 6 go6) 7 go7) 8 go8) 9 go9) 10 go10) 12 go12) 13 go13) 14 go14) 15 go15) 16 go16) 17 go17) 18 go18) a2 _ (show 0 ≤ a2.toInt ∧ a2.toInt < 120 by omega)) (cwV 1 htb (gzV wmt4_190 wmt4_192 wmp3_6 wmt1_8 wmt4_193) rfl rfl rfl (by decide +kernel) ⟨Nat.le_of_ble_eq_true rfl, Nat.le_of_ble_eq_true rfl⟩) (zpA_V (ci := 7) (q0 := 0) hK hP (hDa _) rfl rfl) rfl rfl hl.1 rfl (lv_room (Nat.le_of_ble_eq_true rfl)) dX7_givenOf_62 ⟨Nat.le_of_ble_eq_true rfl, Nat.le_of_ble_eq_true rfl⟩) (hDa _) hS hA (fun r_110 u_111 H locs w_112 hP _ hS => ?_)
              rcases w_112 with ⟨e_114, h_113⟩ | ⟨e_116, h_115⟩
              · skip
                replace e_114 : r_110 = 1 := e_114
                subst e_114
                replace h_113 : kn (sA (sA (sA (sI (sI (sI (sI (sA (sA (sA (sA (sA (sA (sA (sI z 33 0) 4 go4) 5 go5) 6 go6) 7 go7) 8 go8) 9 go9) 10 go10) 12 go12) 13 go13) 14 go14) 15 go15) 16 go16) 17 go17) 18 go18) a2.toNatClampNeg := h_113
                have hkny : kn z a2.toNatClampNeg := h_113
                refine lv_if_eq (tgt := 72) hx hb dX7_givenOf_65 (by decide) (fun c_117 => ?_) (fun c_117 => ?_)
                · skip
                  exact absurd c_117 (by decide)
                · skip
                  refine lv_iconst (v := 1) hx hb dX7_givenOf_68 (by decide) ?_
                  refine lv_goto (tgt := 73) hx hb dX7_givenOf_69 (by decide) ?_
                  refine lv_istore (lv' := [(10, .int 1), (9, .int a2), (8, .int dd), (6, .long 1), (4, .long 1), (3, .int 0), (2, .int fm), (0, .ref (q 0)), (1, .int pe)]) hx hb dX7_givenOf_73 hl (by decide) rfl (fun ls hl => ?_)
                  refine lv_iload_n hx hb dX7_givenOf_75 rfl (lv_at hl 6 rfl) ?_
                  refine lv_if_ne (tgt := 94) hx hb dX7_givenOf_76 (by decide) (fun c_118 => ?_) (fun c_118 => ?_)
                  · skip
                    have hc_118 := zb_ne rfl (show (0 : Int32).toInt = 0 by decide) c_118
                    refine lv_iconst (v := 1) hx hb dX7_givenOf_94 (by decide) ?_
                    refine lv_goto (tgt := 99) hx hb dX7_givenOf_95 (by decide) ?_
                    refine lv_istore_n (lv' := [(2, .int 1), (10, .int 1), (9, .int a2), (8, .int dd), (6, .long 1), (4, .long 1), (3, .int 0), (0, .ref (q 0)), (1, .int pe)]) hx hb dX7_givenOf_99 rfl hl (by decide) rfl (fun ls hl => ?_)
                    obtain ⟨x_119, ex_119⟩ : ∃ y : Int32, y = a2 + 1 := ⟨_, rfl⟩
                    have hx_119 : x_119.toInt = a2.toInt + 1 := z_add ex_119 rfl (show (1 : Int32).toInt = 1 by decide) (by omega)
                    refine lv_iinc (v := x_119) (lv' := [(9, .int x_119), (2, .int 1), (10, .int 1), (8, .int dd), (6, .long 1), (4, .long 1), (3, .int 0), (0, .ref (q 0)), (1, .int pe)]) hx hb dX7_givenOf_100 hl (k := 2) rfl (by rw [ex_119]; rfl) (by decide) rfl (fun ls hl => ?_)
                    refine lv_goto (tgt := 27) hx hb dX7_givenOf_103 (by decide) ?_
                    exact ih27 ((120 - x_119.toInt).toNat) (by omega) 1 x_119 go4 go5 go6 go7 go8 go9 go10 go12 go13 go14 go15 go16 go17 go18 ⟨(show 0 ≤ x_119.toInt ∧ x_119.toInt ≤ (z.1 22).toInt by omega), hI, hrk2, (fun q9 => absurd q9 (by decide))⟩ rfl H locs ls hP hS (lv_sub hl [0, 3, 4, 5, 6, 1, 7, 8] rfl)
                  · skip
                    have hc_118 := zb_eq rfl (show (0 : Int32).toInt = 0 by decide) c_118
                    refine lv_iload hx hb dX7_givenOf_79 (lv_at hl 0 rfl) ?_
                    refine lv_if_eq (tgt := 98) hx hb dX7_givenOf_81 (by decide) (fun c_120 => ?_) (fun c_120 => ?_)
                    · skip
                      exact absurd c_120 (by decide)
                    · skip
                      refine lv_aload_n hx hb dX7_givenOf_84 rfl (lv_at hl 7 rfl) ?_
                      refine lv_iload hx hb dX7_givenOf_85 (lv_at hl 2 rfl) ?_
                      refine zcA_i (w := (zM k q (sA (sA (sA (sI (sI (sI (sI (sA (sA (sA (sA (sA (sA (sA (sI z 33 0) 4 go4) 5 go5) 6 go6) 7 go7) 8 go8) 9 go9) 10 go10) 12 go12) 13 go13) 14 go14) 15 go15) 16 go16) 17 go17) 18 go18))) (va_runV (As := [.int dd]) (rest := []) ⟨hx, hb, hml, hown, htb⟩ (c_X7_faultOf l dC dI k q (sA (sA (sA (sI (sI (sI (sI (sA (sA (sA (sA (sA (sA (sA (sI z 33 0) 4 go4) 5 go5) 6 go6) 7 go7) 8 go8) 9 go9) 10 go10) 12 go12) 13 go13) 14 go14) 15 go15) 16 go16) 17 go17) 18 go18) dd _ hI (show 0 ≤ dd.toInt ∧ dd.toInt < 4 by omega)) (cwV 1 htb (gzV wmt4_73 wmt4_75 wmp2_6 wmt1_8 wmt4_76) rfl rfl rfl (by decide +kernel) ⟨Nat.le_of_ble_eq_true rfl, Nat.le_of_ble_eq_true rfl⟩) (zpA_V (ci := 7) (q0 := 0) hK hP (hDa _) rfl rfl) rfl rfl hl.1 rfl (lv_room (Nat.le_of_ble_eq_true rfl)) dX7_givenOf_87 ⟨Nat.le_of_ble_eq_true rfl, Nat.le_of_ble_eq_true rfl⟩) (hDa _) hS hA (fun r_121 u_122 H locs w_123 hP _ hS => ?_)
                      obtain ⟨o4_124, o5_125, o6_126, o7_127, o8_128, o9_129, o10_130, o12_131, o13_132, o14_133, o15_134, o16_135, o17_136, o18_137⟩ := u_122
                      have hP : va_P (dC, dI) vwCl (zM k q (sA (sA (sA (sI (sI (sI (sI (sA (sA (sA (sA (sA (sA (sA (sI z 33 0) 4 o4_124) 5 o5_125) 6 o6_126) 7 o7_127) 8 o8_128) 9 o9_129) 10 o10_130) 12 o12_131) 13 o13_132) 14 o14_133) 15 o15_134) 16 o16_135) 17 o17_136) 18 o18_137)) H := hP
                      obtain ⟨h_138, h_139, h_140, h_141, h_142⟩ := w_123
                      replace h_138 : MD (FR ((z.2.2.1 2)) ((z.2.2.1 3))) o4_124 o5_125 o6_126 o7_127 o8_128 o9_129 o10_130 := h_138
                      replace h_139 : ¬ o4_124 dd.toNatClampNeg = 0 := h_139
                      replace h_140 : RK (go4) (go5) o4_124 o5_125 := h_140
                      replace h_141 : R7 (go4) (go6) (go7) (go8) (go9) (go10) o6_126 o7_127 o8_128 o9_129 o10_130 := h_141
                      replace h_142 : r_121 = o5_125 dd.toNatClampNeg := h_142
                      have hI : MInv (sA (sA (sA (sI (sI (sI (sI (sA (sA (sA (sA (sA (sA (sA (sI z 33 0) 4 o4_124) 5 o5_125) 6 o6_126) 7 o7_127) 8 o8_128) 9 o9_129) 10 o10_130) 12 o12_131) 13 o13_132) 14 o14_133) 15 o15_134) 16 o16_135) 17 o17_136) 18 o18_137) := ⟨hI.1, hI.2.1, hI.2.2.1, hI.2.2.2.1, hI.2.2.2.2.1, h_138⟩
                      have hrdn := h_139
                      have hrkn := h_140
                      have hr5n : r_121.toInt = (o5_125 dd.toNatClampNeg).toInt := by rw [h_142]
                      refine lv_iconst (v := (-1)) hx hb dX7_givenOf_90 (by decide) ?_
                      refine lv_icmp_eq (tgt := 98) hx hb dX7_givenOf_91 (by decide) (fun c_144 => ?_) (fun c_144 => ?_)
                      · skip
                        have hc_144 := zb_eq rfl (show ((-1) : Int32).toInt = (-1) by decide) c_144
                        refine lv_iconst (v := 0) hx hb dX7_givenOf_98 (by decide) ?_
                        refine lv_istore_n (lv' := [(2, .int 0), (10, .int 1), (9, .int a2), (8, .int dd), (6, .long 1), (4, .long 1), (3, .int 0), (0, .ref (q 0)), (1, .int pe)]) hx hb dX7_givenOf_99 rfl hl (by decide) rfl (fun ls hl => ?_)
                        obtain ⟨x_145, ex_145⟩ : ∃ y : Int32, y = a2 + 1 := ⟨_, rfl⟩
                        have hx_145 : x_145.toInt = a2.toInt + 1 := z_add ex_145 rfl (show (1 : Int32).toInt = 1 by decide) (by omega)
                        refine lv_iinc (v := x_145) (lv' := [(9, .int x_145), (2, .int 0), (10, .int 1), (8, .int dd), (6, .long 1), (4, .long 1), (3, .int 0), (0, .ref (q 0)), (1, .int pe)]) hx hb dX7_givenOf_100 hl (k := 2) rfl (by rw [ex_145]; rfl) (by decide) rfl (fun ls hl => ?_)
                        refine lv_goto (tgt := 27) hx hb dX7_givenOf_103 (by decide) ?_
                        exact ih27 ((120 - x_145.toInt).toNat) (by omega) 0 x_145 o4_124 o5_125 o6_126 o7_127 o8_128 o9_129 o10_130 o12_131 o13_132 o14_133 o15_134 o16_135 o17_136 o18_137 ⟨(show 0 ≤ x_145.toInt ∧ x_145.toInt ≤ (z.1 22).toInt by omega), hI, (RK_trans hrk2 hrkn), (fun _ => GI_add (GI_rk (hgi2 (by omega)) hrkn) ha2.1 hrdn (by omega) hx_145)⟩ rfl H locs ls hP hS (lv_sub hl [0, 3, 4, 5, 6, 1, 7, 8] rfl)
                      · skip
                        have hc_144 := zb_ne rfl (show ((-1) : Int32).toInt = (-1) by decide) c_144
                        refine lv_iconst (v := 1) hx hb dX7_givenOf_94 (by decide) ?_
                        refine lv_goto (tgt := 99) hx hb dX7_givenOf_95 (by decide) ?_
                        refine lv_istore_n (lv' := [(2, .int 1), (10, .int 1), (9, .int a2), (8, .int dd), (6, .long 1), (4, .long 1), (3, .int 0), (0, .ref (q 0)), (1, .int pe)]) hx hb dX7_givenOf_99 rfl hl (by decide) rfl (fun ls hl => ?_)
                        obtain ⟨x_146, ex_146⟩ : ∃ y : Int32, y = a2 + 1 := ⟨_, rfl⟩
                        have hx_146 : x_146.toInt = a2.toInt + 1 := z_add ex_146 rfl (show (1 : Int32).toInt = 1 by decide) (by omega)
                        refine lv_iinc (v := x_146) (lv' := [(9, .int x_146), (2, .int 1), (10, .int 1), (8, .int dd), (6, .long 1), (4, .long 1), (3, .int 0), (0, .ref (q 0)), (1, .int pe)]) hx hb dX7_givenOf_100 hl (k := 2) rfl (by rw [ex_146]; rfl) (by decide) rfl (fun ls hl => ?_)
                        refine lv_goto (tgt := 27) hx hb dX7_givenOf_103 (by decide) ?_
                        exact ih27 ((120 - x_146.toInt).toNat) (by omega) 1 x_146 o4_124 o5_125 o6_126 o7_127 o8_128 o9_129 o10_130 o12_131 o13_132 o14_133 o15_134 o16_135 o17_136 o18_137 ⟨(show 0 ≤ x_146.toInt ∧ x_146.toInt ≤ (z.1 22).toInt by omega), hI, (RK_trans hrk2 hrkn), (fun q9 => absurd q9 (by decide))⟩ rfl H locs ls hP hS (lv_sub hl [0, 3, 4, 5, 6, 1, 7, 8] rfl)
              · skip
                replace e_116 : r_110 = 0 := e_116
                subst e_116
                replace h_115 : ¬ kn (sA (sA (sA (sI (sI (sI (sI (sA (sA (sA (sA (sA (sA (sA (sI z 33 0) 4 go4) 5 go5) 6 go6) 7 go7) 8 go8) 9 go9) 10 go10) 12 go12) 13 go13) 14 go14) 15 go15) 16 go16) 17 go17) 18 go18) a2.toNatClampNeg := h_115
                have hknn : ¬ kn z a2.toNatClampNeg := h_115
                refine lv_if_eq (tgt := 72) hx hb dX7_givenOf_65 (by decide) (fun c_147 => ?_) (fun c_147 => ?_)
                · skip
                  refine lv_iconst (v := 0) hx hb dX7_givenOf_72 (by decide) ?_
                  refine lv_istore (lv' := [(10, .int 0), (9, .int a2), (8, .int dd), (6, .long 1), (4, .long 1), (3, .int 0), (2, .int fm), (0, .ref (q 0)), (1, .int pe)]) hx hb dX7_givenOf_73 hl (by decide) rfl (fun ls hl => ?_)
                  refine lv_iload_n hx hb dX7_givenOf_75 rfl (lv_at hl 6 rfl) ?_
                  refine lv_if_ne (tgt := 94) hx hb dX7_givenOf_76 (by decide) (fun c_148 => ?_) (fun c_148 => ?_)
                  · skip
                    have hc_148 := zb_ne rfl (show (0 : Int32).toInt = 0 by decide) c_148
                    refine lv_iconst (v := 1) hx hb dX7_givenOf_94 (by decide) ?_
                    refine lv_goto (tgt := 99) hx hb dX7_givenOf_95 (by decide) ?_
                    refine lv_istore_n (lv' := [(2, .int 1), (10, .int 0), (9, .int a2), (8, .int dd), (6, .long 1), (4, .long 1), (3, .int 0), (0, .ref (q 0)), (1, .int pe)]) hx hb dX7_givenOf_99 rfl hl (by decide) rfl (fun ls hl => ?_)
                    obtain ⟨x_149, ex_149⟩ : ∃ y : Int32, y = a2 + 1 := ⟨_, rfl⟩
                    have hx_149 : x_149.toInt = a2.toInt + 1 := z_add ex_149 rfl (show (1 : Int32).toInt = 1 by decide) (by omega)
                    refine lv_iinc (v := x_149) (lv' := [(9, .int x_149), (2, .int 1), (10, .int 0), (8, .int dd), (6, .long 1), (4, .long 1), (3, .int 0), (0, .ref (q 0)), (1, .int pe)]) hx hb dX7_givenOf_100 hl (k := 2) rfl (by rw [ex_149]; rfl) (by decide) rfl (fun ls hl => ?_)
                    refine lv_goto (tgt := 27) hx hb dX7_givenOf_103 (by decide) ?_
                    exact ih27 ((120 - x_149.toInt).toNat) (by omega) 1 x_149 go4 go5 go6 go7 go8 go9 go10 go12 go13 go14 go15 go16 go17 go18 ⟨(show 0 ≤ x_149.toInt ∧ x_149.toInt ≤ (z.1 22).toInt by omega), hI, hrk2, (fun q9 => absurd q9 (by decide))⟩ rfl H locs ls hP hS (lv_sub hl [0, 3, 4, 5, 6, 1, 7, 8] rfl)
                  · skip
                    have hc_148 := zb_eq rfl (show (0 : Int32).toInt = 0 by decide) c_148
                    refine lv_iload hx hb dX7_givenOf_79 (lv_at hl 0 rfl) ?_
                    refine lv_if_eq (tgt := 98) hx hb dX7_givenOf_81 (by decide) (fun c_150 => ?_) (fun c_150 => ?_)
                    · skip
                      refine lv_iconst (v := 0) hx hb dX7_givenOf_98 (by decide) ?_
                      refine lv_istore_n (lv' := [(2, .int 0), (10, .int 0), (9, .int a2), (8, .int dd), (6, .long 1), (4, .long 1), (3, .int 0), (0, .ref (q 0)), (1, .int pe)]) hx hb dX7_givenOf_99 rfl hl (by decide) rfl (fun ls hl => ?_)
                      obtain ⟨x_151, ex_151⟩ : ∃ y : Int32, y = a2 + 1 := ⟨_, rfl⟩
                      have hx_151 : x_151.toInt = a2.toInt + 1 := z_add ex_151 rfl (show (1 : Int32).toInt = 1 by decide) (by omega)
                      refine lv_iinc (v := x_151) (lv' := [(9, .int x_151), (2, .int 0), (10, .int 0), (8, .int dd), (6, .long 1), (4, .long 1), (3, .int 0), (0, .ref (q 0)), (1, .int pe)]) hx hb dX7_givenOf_100 hl (k := 2) rfl (by rw [ex_151]; rfl) (by decide) rfl (fun ls hl => ?_)
                      refine lv_goto (tgt := 27) hx hb dX7_givenOf_103 (by decide) ?_
                      exact ih27 ((120 - x_151.toInt).toNat) (by omega) 0 x_151 go4 go5 go6 go7 go8 go9 go10 go12 go13 go14 go15 go16 go17 go18 ⟨(show 0 ≤ x_151.toInt ∧ x_151.toInt ≤ (z.1 22).toInt by omega), hI, hrk2, (fun _ => GI_skip (hgi2 (by omega)) ha2.1 (fun _ q2 _ => hknn q2) hx_151)⟩ rfl H locs ls hP hS (lv_sub hl [0, 3, 4, 5, 6, 1, 7, 8] rfl)
                    · skip
                      exact absurd (by decide) c_150
                · skip
                  exact absurd (by decide) c_147
set_option maxHeartbeats 4000000 in
set_option maxRecDepth 100000 in
theorem c_X7_givenTold (l : Launch) (dC : Nat → ClassId) (dI : Nat → Nat → Nat) (k : Nat → ClassId) (q : Nat → Nat) (z : ZS) (pe : Int32) (w : Int32) (sz : Nat) (hI : MInv z) : Met l yX7_givenTold (wz yX7_givenTold cX7_givenTold 4 (some .long)) ({ frames := 6, cells := 0, slots := 0, locals := 144 }) (va_Pc [.ref (q 0), .int pe, .int w] (zPre dC dI k (zTX k) (zM k q z) sz)) (va_Ql (fun (r : Int64) (u : (Nat → Int32) × (Nat → Int32) × (Nat → Int32) × (Nat → Int32) × (Nat → Int32) × (Nat → Int32) × (Nat → Int32) × Int32 × Int32 × Int32 × Int32 × (Nat → Int32) × (Nat → Int32) × (Nat → Int32) × Int64 × Int64 × Int32 × (Nat → Int32)) => (MD (FR (z.2.2.1 2) (z.2.2.1 3)) u.1 u.2.1 u.2.2.1 u.2.2.2.1 u.2.2.2.2.1 u.2.2.2.2.2.1 u.2.2.2.2.2.2.1)) (fun u t => zPost dC dI (va_A (zM k q z) sz) (zM k q (sA (sI (sJ (sJ (sA (sA (sA (sI (sI (sI (sI (sA (sA (sA (sA (sA (sA (sA z 4 u.1) 5 u.2.1) 6 u.2.2.1) 7 u.2.2.2.1) 8 u.2.2.2.2.1) 9 u.2.2.2.2.2.1) 10 u.2.2.2.2.2.2.1) 12 u.2.2.2.2.2.2.2.1) 13 u.2.2.2.2.2.2.2.2.1) 14 u.2.2.2.2.2.2.2.2.2.1) 15 u.2.2.2.2.2.2.2.2.2.2.1) 16 u.2.2.2.2.2.2.2.2.2.2.2.1) 17 u.2.2.2.2.2.2.2.2.2.2.2.2.1) 18 u.2.2.2.2.2.2.2.2.2.2.2.2.2.1) 0 u.2.2.2.2.2.2.2.2.2.2.2.2.2.2.1) 1 u.2.2.2.2.2.2.2.2.2.2.2.2.2.2.2.1) 33 u.2.2.2.2.2.2.2.2.2.2.2.2.2.2.2.2.1) 34 u.2.2.2.2.2.2.2.2.2.2.2.2.2.2.2.2.2)) t) (va_A (zM k q z) sz)) 0 0 (va_A (zM k q z) sz) := by
  refine Met.ofW (cc := cX7_givenTold) (maxL := 4) (ret := (some .long)) (by decide) rfl ?_
  intro p e s m args below meth c s₁ B hml hv
  obtain ⟨rfl, hsz, hP, hK, hD0⟩ := hv
  have hx := B.exec
  have hb := B.bytes
  have hr := B.returns
  have hts := atoms_spec (ws := wz yX7_givenTold cX7_givenTold 4 (some .long)) B.pre
  have htb : ∀ w ∈ zw, w.before _ s = true := fun w h => hts w (List.mem_cons_of_mem _ h)
  have hown : s.vm.findClass RX7 = some m.cls := findClass_of_methodNamed B.named
  have hlocks := B.notSynchronized
  clear hts
  subst hsz
  have hD := hD0.self (sz := s.heap.size)
  generalize hAe : va_A (zM k q z) s.heap.size = A at hD ⊢
  have hA : ∀ q : Nat, s.heap.size ≤ q → A q := fun q h => by rw [← hAe]; exact Or.inr h
  have hDa : ∀ z9 : ZS, va_D A (zM k q z9) := fun z9 => va_D_adr (w := zM k q z) rfl hD
  have hl := lv_entry ([.ref (q 0), .int pe, .int w]) (n := 4) (Nat.le_of_ble_eq_true rfl)
  rw [lg_entry_eq]
  generalize (lg_sl ([.ref (q 0), .int pe, .int w]) ++ List.replicate (4 - (lg_sl ([.ref (q 0), .int pe, .int w])).length) Slot.unset).toArray = ls at hl ⊢
  have hl : lv_has ls 4 [(0, .ref (q 0)), (1, .int pe), (2, .int w)] := hl
  refine z_start2 (A := A) (w := (zM k q z)) hP (fun H locs hP hS => ?_)
  clear hD0 hAe
  refine lv_aload_n hx hb dX7_givenTold_0 rfl (lv_at hl 0 rfl) ?_
  refine lv_iload_n hx hb dX7_givenTold_1 rfl (lv_at hl 1 rfl) ?_
  refine zcA_i (w := (zM k q z)) (va_runV (As := [.int pe]) (rest := []) ⟨hx, hb, hml, hown, htb⟩ (c_X7_givenOf l dC dI k q z pe _ hI) (cwV 1 htb (gzV wmt5_44 wmt5_46 wmp4_0 wmt1_8 wmt5_47) rfl rfl rfl (by decide +kernel) ⟨Nat.le_of_ble_eq_true rfl, Nat.le_of_ble_eq_true rfl⟩) (zpA_V (ci := 7) (q0 := 0) hK hP (hDa _) rfl rfl) rfl rfl hl.1 rfl (lv_room (Nat.le_of_ble_eq_true rfl)) dX7_givenTold_2 ⟨Nat.le_of_ble_eq_true rfl, Nat.le_of_ble_eq_true rfl⟩) (hDa _) hS hA (fun r_1 u_2 H locs w_3 hP _ hS => ?_)
  obtain ⟨o4_4, o5_5, o6_6, o7_7, o8_8, o9_9, o10_10, o12_11, o13_12, o14_13, o15_14, o16_15, o17_16, o18_17, oa_18, ob_19, o33_20, o34_21⟩ := u_2
  have hP : va_P (dC, dI) vwCl (zM k q (sA (sI (sJ (sJ (sA (sA (sA (sI (sI (sI (sI (sA (sA (sA (sA (sA (sA (sA z 4 o4_4) 5 o5_5) 6 o6_6) 7 o7_7) 8 o8_8) 9 o9_9) 10 o10_10) 12 o12_11) 13 o13_12) 14 o14_13) 15 o15_14) 16 o16_15) 17 o17_16) 18 o18_17) 0 oa_18) 1 ob_19) 33 o33_20) 34 o34_21)) H := hP
  obtain ⟨h_22, h_23, h_24⟩ := w_3
  replace h_22 : MD (FR ((z.2.2.1 2)) ((z.2.2.1 3))) o4_4 o5_5 o6_6 o7_7 o8_8 o9_9 o10_10 := h_22
  replace h_23 : r_1.toInt = 0 → (0 ≤ oa_18.toInt ∧ oa_18.toInt ≤ 1000000000) ∧ (1 ≤ ob_19.toInt ∧ ob_19.toInt ≤ 1000000000) := h_23
  replace h_24 : RK ((z.2.2.1 4)) ((z.2.2.1 5)) o4_4 o5_5 := h_24
  have hI : MInv (sA (sI (sJ (sJ (sA (sA (sA (sI (sI (sI (sI (sA (sA (sA (sA (sA (sA (sA z 4 o4_4) 5 o5_5) 6 o6_6) 7 o7_7) 8 o8_8) 9 o9_9) 10 o10_10) 12 o12_11) 13 o13_12) 14 o14_13) 15 o15_14) 16 o16_15) 17 o17_16) 18 o18_17) 0 oa_18) 1 ob_19) 33 o33_20) 34 o34_21) := ⟨hI.1, hI.2.1, hI.2.2.1, hI.2.2.2.1, hI.2.2.2.2.1, h_22⟩
  refine lv_istore_n (lv' := [(3, .int r_1), (0, .ref (q 0)), (1, .int pe), (2, .int w)]) hx hb dX7_givenTold_5 rfl hl (by decide) rfl (fun ls hl => ?_)
  refine lv_iload_n hx hb dX7_givenTold_6 rfl (lv_at hl 0 rfl) ?_
  refine lv_if_eq (tgt := 17) hx hb dX7_givenTold_7 (by decide) (fun c_26 => ?_) (fun c_26 => ?_)
  · skip
    have hc_26 := zb_eq rfl (show (0 : Int32).toInt = 0 by decide) c_26
    refine lv_aload_n hx hb dX7_givenTold_17 rfl (lv_at hl 1 rfl) ?_
    refine lv_iload_n hx hb dX7_givenTold_18 rfl (lv_at hl 3 rfl) ?_
    refine zcA_l (w := (zM k q (sA (sI (sJ (sJ (sA (sA (sA (sI (sI (sI (sI (sA (sA (sA (sA (sA (sA (sA z 4 o4_4) 5 o5_5) 6 o6_6) 7 o7_7) 8 o8_8) 9 o9_9) 10 o10_10) 12 o12_11) 13 o13_12) 14 o14_13) 15 o15_14) 16 o16_15) 17 o17_16) 18 o18_17) 0 oa_18) 1 ob_19) 33 o33_20) 34 o34_21))) (va_runV (As := [.int w]) (rest := []) ⟨hx, hb, hml, hown, htb⟩ (c_X7_part l dC dI k q (sA (sI (sJ (sJ (sA (sA (sA (sI (sI (sI (sI (sA (sA (sA (sA (sA (sA (sA z 4 o4_4) 5 o5_5) 6 o6_6) 7 o7_7) 8 o8_8) 9 o9_9) 10 o10_10) 12 o12_11) 13 o13_12) 14 o14_13) 15 o15_14) 16 o16_15) 17 o17_16) 18 o18_17) 0 oa_18) 1 ob_19) 33 o33_20) 34 o34_21) w _ ) (cwV 1 htb (gzV wmt4_133 wmt4_135 wmp3_1 wmt1_8 wmt4_136) rfl rfl rfl (by decide +kernel) ⟨Nat.le_of_ble_eq_true rfl, Nat.le_of_ble_eq_true rfl⟩) (zpA_V (ci := 7) (q0 := 0) hK hP (hDa _) rfl rfl) rfl rfl hl.1 rfl (lv_room (Nat.le_of_ble_eq_true rfl)) dX7_givenTold_19 ⟨Nat.le_of_ble_eq_true rfl, Nat.le_of_ble_eq_true rfl⟩) (hDa _) hS hA (fun r_27 u_28 H locs w_29 hP _ hS => ?_)
    exact W.lret (v := r_27) hx hb hr (fun t ht hW => ⟨⟨r_27, (o4_4, o5_5, o6_6, o7_7, o8_8, o9_9, o10_10, o12_11, o13_12, o14_13, o15_14, o16_15, o17_16, o18_17, oa_18, ob_19, o33_20, o34_21), rfl, (show (MD (FR (z.2.2.1 2) (z.2.2.1 3)) o4_4 o5_5 o6_6 o7_7 o8_8 o9_9 o10_10) from hI.2.2.2.2.2), ⟨by rw [ht]; exact hP, hDa _⟩⟩, hS.F ht⟩) hS.2.2 dX7_givenTold_22
  · skip
    have hc_26 := zb_ne rfl (show (0 : Int32).toInt = 0 by decide) c_26
    refine lv_iload_n hx hb dX7_givenTold_10 rfl (lv_at hl 0 rfl) ?_
    refine zc0_l (w := (zM k q (sA (sI (sJ (sJ (sA (sA (sA (sI (sI (sI (sI (sA (sA (sA (sA (sA (sA (sA z 4 o4_4) 5 o5_5) 6 o6_6) 7 o7_7) 8 o8_8) 9 o9_9) 10 o10_10) 12 o12_11) 13 o13_12) 14 o14_13) 15 o15_14) 16 o16_15) 17 o17_16) 18 o18_17) 0 oa_18) 1 ob_19) 33 o33_20) 34 o34_21))) (va_runS (As := [.int r_1]) (rest := []) ⟨hx, hb, hml, hown, htb⟩ (c_X7_told l dC dI k r_1 _ ) (va_cwS 1 htb (gzS wmt4_116 wmt4_117 wmt1_8 wmt4_118) rfl rfl rfl (by decide +kernel) ⟨Nat.le_of_ble_eq_true rfl, Nat.le_of_ble_eq_true rfl⟩) (zp0_S hK) rfl rfl hl.1 rfl (lv_room (Nat.le_of_ble_eq_true rfl)) dX7_givenTold_11 ⟨Nat.le_of_ble_eq_true rfl, Nat.le_of_ble_eq_true rfl⟩) hP hS hA (fun r_30 u_31 H locs w_32 hP hS => ?_)
    refine lv_goto (tgt := 22) hx hb dX7_givenTold_14 (by decide) ?_
    exact W.lret (v := r_30) hx hb hr (fun t ht hW => ⟨⟨r_30, (o4_4, o5_5, o6_6, o7_7, o8_8, o9_9, o10_10, o12_11, o13_12, o14_13, o15_14, o16_15, o17_16, o18_17, oa_18, ob_19, o33_20, o34_21), rfl, (show (MD (FR (z.2.2.1 2) (z.2.2.1 3)) o4_4 o5_5 o6_6 o7_7 o8_8 o9_9 o10_10) from hI.2.2.2.2.2), ⟨by rw [ht]; exact hP, hDa _⟩⟩, hS.F ht⟩) hS.2.2 dX7_givenTold_22
set_option maxHeartbeats 4000000 in
set_option maxRecDepth 100000 in
theorem c_X7_given (l : Launch) (dC : Nat → ClassId) (dI : Nat → Nat → Nat) (k : Nat → ClassId) (q : Nat → Nat) (z : ZS) (pe : Int32) (w : Int32) (sz : Nat) (hI : MInv z) : Met l yX7_given (wz yX7_given cX7_given 3 (some .long)) ({ frames := 7, cells := 0, slots := 0, locals := 167 }) (va_Pc [.ref (q 0), .int pe, .int w] (zPre dC dI k (zTX k) (zM k q z) sz)) (va_Ql (fun (r : Int64) (u : (Nat → Int32) × (Nat → Int32) × (Nat → Int32) × (Nat → Int32) × (Nat → Int32) × (Nat → Int32) × (Nat → Int32) × Int32 × Int32 × Int32 × Int32 × (Nat → Int32) × (Nat → Int32) × (Nat → Int32) × Int64 × Int64 × Int32 × (Nat → Int32)) => (MD (FR (z.2.2.1 2) (z.2.2.1 3)) u.1 u.2.1 u.2.2.1 u.2.2.2.1 u.2.2.2.2.1 u.2.2.2.2.2.1 u.2.2.2.2.2.2.1)) (fun u t => zPost dC dI (va_A (zM k q z) sz) (zM k q (sA (sI (sJ (sJ (sA (sA (sA (sI (sI (sI (sI (sA (sA (sA (sA (sA (sA (sA z 4 u.1) 5 u.2.1) 6 u.2.2.1) 7 u.2.2.2.1) 8 u.2.2.2.2.1) 9 u.2.2.2.2.2.1) 10 u.2.2.2.2.2.2.1) 12 u.2.2.2.2.2.2.2.1) 13 u.2.2.2.2.2.2.2.2.1) 14 u.2.2.2.2.2.2.2.2.2.1) 15 u.2.2.2.2.2.2.2.2.2.2.1) 16 u.2.2.2.2.2.2.2.2.2.2.2.1) 17 u.2.2.2.2.2.2.2.2.2.2.2.2.1) 18 u.2.2.2.2.2.2.2.2.2.2.2.2.2.1) 0 u.2.2.2.2.2.2.2.2.2.2.2.2.2.2.1) 1 u.2.2.2.2.2.2.2.2.2.2.2.2.2.2.2.1) 33 u.2.2.2.2.2.2.2.2.2.2.2.2.2.2.2.2.1) 34 u.2.2.2.2.2.2.2.2.2.2.2.2.2.2.2.2.2)) t) (va_A (zM k q z) sz)) 0 0 (va_A (zM k q z) sz) := by
  refine Met.ofW (cc := cX7_given) (maxL := 3) (ret := (some .long)) (by decide) rfl ?_
  intro p e s m args below meth c s₁ B hml hv
  obtain ⟨rfl, hsz, hP, hK, hD0⟩ := hv
  have hx := B.exec
  have hb := B.bytes
  have hr := B.returns
  have hts := atoms_spec (ws := wz yX7_given cX7_given 3 (some .long)) B.pre
  have htb : ∀ w ∈ zw, w.before _ s = true := fun w h => hts w (List.mem_cons_of_mem _ h)
  have hown : s.vm.findClass RX7 = some m.cls := findClass_of_methodNamed B.named
  have hlocks := B.notSynchronized
  clear hts
  subst hsz
  have hD := hD0.self (sz := s.heap.size)
  generalize hAe : va_A (zM k q z) s.heap.size = A at hD ⊢
  have hA : ∀ q : Nat, s.heap.size ≤ q → A q := fun q h => by rw [← hAe]; exact Or.inr h
  have hDa : ∀ z9 : ZS, va_D A (zM k q z9) := fun z9 => va_D_adr (w := zM k q z) rfl hD
  have hl := lv_entry ([.ref (q 0), .int pe, .int w]) (n := 3) (Nat.le_of_ble_eq_true rfl)
  rw [lg_entry_eq]
  generalize (lg_sl ([.ref (q 0), .int pe, .int w]) ++ List.replicate (3 - (lg_sl ([.ref (q 0), .int pe, .int w])).length) Slot.unset).toArray = ls at hl ⊢
  have hl : lv_has ls 3 [(0, .ref (q 0)), (1, .int pe), (2, .int w)] := hl
  refine z_start2 (A := A) (w := (zM k q z)) hP (fun H locs hP hS => ?_)
  clear hD0 hAe
  refine lv_iload_n hx hb dX7_given_0 rfl (lv_at hl 1 rfl) ?_
  refine zc0_i (w := (zM k q z)) (va_runS (As := [.int pe]) (rest := []) ⟨hx, hb, hml, hown, htb⟩ (c_X7_isPerson l dC dI k pe _ ) (va_cwS 1 htb (gzS wmt4_153 wmt4_154 wmt1_8 wmt4_155) rfl rfl rfl (by decide +kernel) ⟨Nat.le_of_ble_eq_true rfl, Nat.le_of_ble_eq_true rfl⟩) (zp0_S hK) rfl rfl hl.1 rfl (lv_room (Nat.le_of_ble_eq_true rfl)) dX7_given_1 ⟨Nat.le_of_ble_eq_true rfl, Nat.le_of_ble_eq_true rfl⟩) hP hS hA (fun r_1 u_2 H locs w_3 hP hS => ?_)
  rcases w_3 with ⟨e_5, h_4⟩ | ⟨e_7, h_6⟩
  · skip
    replace e_5 : r_1 = 1 := e_5
    subst e_5
    replace h_4 : 0 ≤ pe.toInt ∧ pe.toInt < 24 := h_4
    refine lv_if_eq (tgt := 25) hx hb dX7_given_4 (by decide) (fun c_8 => ?_) (fun c_8 => ?_)
    · skip
      exact absurd c_8 (by decide)
    · skip
      refine lv_iload_n hx hb dX7_given_7 rfl (lv_at hl 2 rfl) ?_
      refine lv_iconst (v := 0) hx hb dX7_given_8 (by decide) ?_
      refine lv_iconst (v := 1) hx hb dX7_given_9 (by decide) ?_
      refine zc0_i (w := (zM k q z)) (va_runS (As := [.int w, .int 0, .int 1]) (rest := []) ⟨hx, hb, hml, hown, htb⟩ (c_X7_in l dC dI k w 0 1 _ ) (va_cwS 3 htb (gzS wmt4_62 wmt4_63 wmt1_8 wmt4_64) rfl rfl rfl (by decide +kernel) ⟨Nat.le_of_ble_eq_true rfl, Nat.le_of_ble_eq_true rfl⟩) (zp0_S hK) rfl rfl hl.1 rfl (lv_room (Nat.le_of_ble_eq_true rfl)) dX7_given_10 ⟨Nat.le_of_ble_eq_true rfl, Nat.le_of_ble_eq_true rfl⟩) hP hS hA (fun r_9 u_10 H locs w_11 hP hS => ?_)
      rcases w_11 with ⟨e_13, h_12⟩ | ⟨e_15, h_14⟩
      · skip
        replace e_13 : r_9 = 1 := e_13
        subst e_13
        replace h_12 : (0 : Int32).toInt ≤ w.toInt ∧ w.toInt ≤ (1 : Int32).toInt := h_12
        rw [show (0 : Int32).toInt = 0 by decide, show (1 : Int32).toInt = 1 by decide] at h_12
        refine lv_if_eq (tgt := 25) hx hb dX7_given_13 (by decide) (fun c_16 => ?_) (fun c_16 => ?_)
        · skip
          exact absurd c_16 (by decide)
        · skip
          refine lv_aload_n hx hb dX7_given_16 rfl (lv_at hl 0 rfl) ?_
          refine lv_iload_n hx hb dX7_given_17 rfl (lv_at hl 1 rfl) ?_
          refine lv_iload_n hx hb dX7_given_18 rfl (lv_at hl 2 rfl) ?_
          refine zcA_l (w := (zM k q z)) (va_runV (As := [.int pe, .int w]) (rest := []) ⟨hx, hb, hml, hown, htb⟩ (c_X7_givenTold l dC dI k q z pe w _ hI) (cwV 2 htb (gzV wmt5_40 wmt5_42 wmp3_15 wmt1_8 wmt5_43) rfl rfl rfl (by decide +kernel) ⟨Nat.le_of_ble_eq_true rfl, Nat.le_of_ble_eq_true rfl⟩) (zpA_V (ci := 7) (q0 := 0) hK hP (hDa _) rfl rfl) rfl rfl hl.1 rfl (lv_room (Nat.le_of_ble_eq_true rfl)) dX7_given_19 ⟨Nat.le_of_ble_eq_true rfl, Nat.le_of_ble_eq_true rfl⟩) (hDa _) hS hA (fun r_17 u_18 H locs w_19 hP _ hS => ?_)
          obtain ⟨o4_20, o5_21, o6_22, o7_23, o8_24, o9_25, o10_26, o12_27, o13_28, o14_29, o15_30, o16_31, o17_32, o18_33, oa_34, ob_35, o33_36, o34_37⟩ := u_18
          have hP : va_P (dC, dI) vwCl (zM k q (sA (sI (sJ (sJ (sA (sA (sA (sI (sI (sI (sI (sA (sA (sA (sA (sA (sA (sA z 4 o4_20) 5 o5_21) 6 o6_22) 7 o7_23) 8 o8_24) 9 o9_25) 10 o10_26) 12 o12_27) 13 o13_28) 14 o14_29) 15 o15_30) 16 o16_31) 17 o17_32) 18 o18_33) 0 oa_34) 1 ob_35) 33 o33_36) 34 o34_37)) H := hP
          have h_38 := w_19
          replace h_38 : MD (FR ((z.2.2.1 2)) ((z.2.2.1 3))) o4_20 o5_21 o6_22 o7_23 o8_24 o9_25 o10_26 := h_38
          have hI : MInv (sA (sI (sJ (sJ (sA (sA (sA (sI (sI (sI (sI (sA (sA (sA (sA (sA (sA (sA z 4 o4_20) 5 o5_21) 6 o6_22) 7 o7_23) 8 o8_24) 9 o9_25) 10 o10_26) 12 o12_27) 13 o13_28) 14 o14_29) 15 o15_30) 16 o16_31) 17 o17_32) 18 o18_33) 0 oa_34) 1 ob_35) 33 o33_36) 34 o34_37) := ⟨hI.1, hI.2.1, hI.2.2.1, hI.2.2.2.1, hI.2.2.2.2.1, h_38⟩
          refine lv_goto (tgt := 30) hx hb dX7_given_22 (by decide) ?_
          exact W.lret (v := r_17) hx hb hr (fun t ht hW => ⟨⟨r_17, (o4_20, o5_21, o6_22, o7_23, o8_24, o9_25, o10_26, o12_27, o13_28, o14_29, o15_30, o16_31, o17_32, o18_33, oa_34, ob_35, o33_36, o34_37), rfl, (show (MD (FR (z.2.2.1 2) (z.2.2.1 3)) o4_20 o5_21 o6_22 o7_23 o8_24 o9_25 o10_26) from hI.2.2.2.2.2), ⟨by rw [ht]; exact hP, hDa _⟩⟩, hS.F ht⟩) hS.2.2 dX7_given_30
      · skip
        replace e_15 : r_9 = 0 := e_15
        subst e_15
        replace h_14 : ¬ ((0 : Int32).toInt ≤ w.toInt ∧ w.toInt ≤ (1 : Int32).toInt) := h_14
        rw [show (0 : Int32).toInt = 0 by decide, show (1 : Int32).toInt = 1 by decide] at h_14
        refine lv_if_eq (tgt := 25) hx hb dX7_given_13 (by decide) (fun c_40 => ?_) (fun c_40 => ?_)
        · skip
          refine lv_bipush (v := (-2)) hx hb dX7_given_25 (by decide) ?_
          refine zc0_l (w := (zM k q z)) (va_runS (As := [.int (-2)]) (rest := []) ⟨hx, hb, hml, hown, htb⟩ (c_X7_told l dC dI k (-2) _ ) (va_cwS 1 htb (gzS wmt4_116 wmt4_117 wmt1_8 wmt4_118) rfl rfl rfl (by decide +kernel) ⟨Nat.le_of_ble_eq_true rfl, Nat.le_of_ble_eq_true rfl⟩) (zp0_S hK) rfl rfl hl.1 rfl (lv_room (Nat.le_of_ble_eq_true rfl)) dX7_given_27 ⟨Nat.le_of_ble_eq_true rfl, Nat.le_of_ble_eq_true rfl⟩) hP hS hA (fun r_41 u_42 H locs w_43 hP hS => ?_)
          exact W.lret (v := r_41) hx hb hr (fun t ht hW => ⟨⟨r_41, (z.2.2.1 4, z.2.2.1 5, z.2.2.1 6, z.2.2.1 7, z.2.2.1 8, z.2.2.1 9, z.2.2.1 10, z.1 12, z.1 13, z.1 14, z.1 15, z.2.2.1 16, z.2.2.1 17, z.2.2.1 18, z.2.1 0, z.2.1 1, z.1 33, z.2.2.1 34), rfl, (show (MD (FR (z.2.2.1 2) (z.2.2.1 3)) (z.2.2.1 4) (z.2.2.1 5) (z.2.2.1 6) (z.2.2.1 7) (z.2.2.1 8) (z.2.2.1 9) (z.2.2.1 10)) from hI.2.2.2.2.2), ⟨by rw [ht]; exact hP, hDa _⟩⟩, hS.F ht⟩) hS.2.2 dX7_given_30
        · skip
          exact absurd (by decide) c_40
  · skip
    replace e_7 : r_1 = 0 := e_7
    subst e_7
    replace h_6 : ¬ (0 ≤ pe.toInt ∧ pe.toInt < 24) := h_6
    refine lv_if_eq (tgt := 25) hx hb dX7_given_4 (by decide) (fun c_44 => ?_) (fun c_44 => ?_)
    · skip
      refine lv_bipush (v := (-2)) hx hb dX7_given_25 (by decide) ?_
      refine zc0_l (w := (zM k q z)) (va_runS (As := [.int (-2)]) (rest := []) ⟨hx, hb, hml, hown, htb⟩ (c_X7_told l dC dI k (-2) _ ) (va_cwS 1 htb (gzS wmt4_116 wmt4_117 wmt1_8 wmt4_118) rfl rfl rfl (by decide +kernel) ⟨Nat.le_of_ble_eq_true rfl, Nat.le_of_ble_eq_true rfl⟩) (zp0_S hK) rfl rfl hl.1 rfl (lv_room (Nat.le_of_ble_eq_true rfl)) dX7_given_27 ⟨Nat.le_of_ble_eq_true rfl, Nat.le_of_ble_eq_true rfl⟩) hP hS hA (fun r_45 u_46 H locs w_47 hP hS => ?_)
      exact W.lret (v := r_45) hx hb hr (fun t ht hW => ⟨⟨r_45, (z.2.2.1 4, z.2.2.1 5, z.2.2.1 6, z.2.2.1 7, z.2.2.1 8, z.2.2.1 9, z.2.2.1 10, z.1 12, z.1 13, z.1 14, z.1 15, z.2.2.1 16, z.2.2.1 17, z.2.2.1 18, z.2.1 0, z.2.1 1, z.1 33, z.2.2.1 34), rfl, (show (MD (FR (z.2.2.1 2) (z.2.2.1 3)) (z.2.2.1 4) (z.2.2.1 5) (z.2.2.1 6) (z.2.2.1 7) (z.2.2.1 8) (z.2.2.1 9) (z.2.2.1 10)) from hI.2.2.2.2.2), ⟨by rw [ht]; exact hP, hDa _⟩⟩, hS.F ht⟩) hS.2.2 dX7_given_30
    · skip
      exact absurd (by decide) c_44
set_option maxHeartbeats 4000000 in
set_option maxRecDepth 100000 in
theorem c_X7_has (l : Launch) (dC : Nat → ClassId) (dI : Nat → Nat → Nat) (k : Nat → ClassId) (q : Nat → Nat) (z : ZS) (pe : Int32) (n : Int32) (w : Int32) (sz : Nat) (hI : MInv z) : Met l yX7_has (wz yX7_has cX7_has 5 (some .long)) ({ frames := 6, cells := 0, slots := 0, locals := 144 }) (va_Pc [.ref (q 0), .int pe, .int n, .int w] (zPre dC dI k (zTX k) (zM k q z) sz)) (va_Ql (fun (r : Int64) (u : (Nat → Int32) × (Nat → Int32) × (Nat → Int32) × (Nat → Int32) × (Nat → Int32) × (Nat → Int32) × (Nat → Int32) × Int32 × Int32 × Int32 × Int32 × (Nat → Int32) × (Nat → Int32) × (Nat → Int32) × Int64 × Int64 × Int32 × (Nat → Int32)) => (MD (FR (z.2.2.1 2) (z.2.2.1 3)) u.1 u.2.1 u.2.2.1 u.2.2.2.1 u.2.2.2.2.1 u.2.2.2.2.2.1 u.2.2.2.2.2.2.1)) (fun u t => zPost dC dI (va_A (zM k q z) sz) (zM k q (sA (sI (sJ (sJ (sA (sA (sA (sI (sI (sI (sI (sA (sA (sA (sA (sA (sA (sA z 4 u.1) 5 u.2.1) 6 u.2.2.1) 7 u.2.2.2.1) 8 u.2.2.2.2.1) 9 u.2.2.2.2.2.1) 10 u.2.2.2.2.2.2.1) 12 u.2.2.2.2.2.2.2.1) 13 u.2.2.2.2.2.2.2.2.1) 14 u.2.2.2.2.2.2.2.2.2.1) 15 u.2.2.2.2.2.2.2.2.2.2.1) 16 u.2.2.2.2.2.2.2.2.2.2.2.1) 17 u.2.2.2.2.2.2.2.2.2.2.2.2.1) 18 u.2.2.2.2.2.2.2.2.2.2.2.2.2.1) 0 u.2.2.2.2.2.2.2.2.2.2.2.2.2.2.1) 1 u.2.2.2.2.2.2.2.2.2.2.2.2.2.2.2.1) 33 u.2.2.2.2.2.2.2.2.2.2.2.2.2.2.2.2.1) 34 u.2.2.2.2.2.2.2.2.2.2.2.2.2.2.2.2.2)) t) (va_A (zM k q z) sz)) 0 0 (va_A (zM k q z) sz) := by
  refine Met.ofW (cc := cX7_has) (maxL := 5) (ret := (some .long)) (by decide) rfl ?_
  intro p e s m args below meth c s₁ B hml hv
  obtain ⟨rfl, hsz, hP, hK, hD0⟩ := hv
  have hx := B.exec
  have hb := B.bytes
  have hr := B.returns
  have hts := atoms_spec (ws := wz yX7_has cX7_has 5 (some .long)) B.pre
  have htb : ∀ w ∈ zw, w.before _ s = true := fun w h => hts w (List.mem_cons_of_mem _ h)
  have hown : s.vm.findClass RX7 = some m.cls := findClass_of_methodNamed B.named
  have hlocks := B.notSynchronized
  clear hts
  subst hsz
  have hD := hD0.self (sz := s.heap.size)
  generalize hAe : va_A (zM k q z) s.heap.size = A at hD ⊢
  have hA : ∀ q : Nat, s.heap.size ≤ q → A q := fun q h => by rw [← hAe]; exact Or.inr h
  have hDa : ∀ z9 : ZS, va_D A (zM k q z9) := fun z9 => va_D_adr (w := zM k q z) rfl hD
  have hl := lv_entry ([.ref (q 0), .int pe, .int n, .int w]) (n := 5) (Nat.le_of_ble_eq_true rfl)
  rw [lg_entry_eq]
  generalize (lg_sl ([.ref (q 0), .int pe, .int n, .int w]) ++ List.replicate (5 - (lg_sl ([.ref (q 0), .int pe, .int n, .int w])).length) Slot.unset).toArray = ls at hl ⊢
  have hl : lv_has ls 5 [(0, .ref (q 0)), (1, .int pe), (2, .int n), (3, .int w)] := hl
  refine z_start2 (A := A) (w := (zM k q z)) hP (fun H locs hP hS => ?_)
  clear hD0 hAe
  refine lv_iload_n hx hb dX7_has_0 rfl (lv_at hl 1 rfl) ?_
  refine zc0_i (w := (zM k q z)) (va_runS (As := [.int pe]) (rest := []) ⟨hx, hb, hml, hown, htb⟩ (c_X7_isPerson l dC dI k pe _ ) (va_cwS 1 htb (gzS wmt4_153 wmt4_154 wmt1_8 wmt4_155) rfl rfl rfl (by decide +kernel) ⟨Nat.le_of_ble_eq_true rfl, Nat.le_of_ble_eq_true rfl⟩) (zp0_S hK) rfl rfl hl.1 rfl (lv_room (Nat.le_of_ble_eq_true rfl)) dX7_has_1 ⟨Nat.le_of_ble_eq_true rfl, Nat.le_of_ble_eq_true rfl⟩) hP hS hA (fun r_1 u_2 H locs w_3 hP hS => ?_)
  rcases w_3 with ⟨e_5, h_4⟩ | ⟨e_7, h_6⟩
  · skip
    replace e_5 : r_1 = 1 := e_5
    subst e_5
    replace h_4 : 0 ≤ pe.toInt ∧ pe.toInt < 24 := h_4
    refine lv_if_eq (tgt := 26) hx hb dX7_has_4 (by decide) (fun c_8 => ?_) (fun c_8 => ?_)
    · skip
      exact absurd c_8 (by decide)
    · skip
      refine lv_iload_n hx hb dX7_has_7 rfl (lv_at hl 2 rfl) ?_
      refine lv_iconst (v := 1) hx hb dX7_has_8 (by decide) ?_
      refine lv_bipush (v := 99) hx hb dX7_has_9 (by decide) ?_
      refine zc0_i (w := (zM k q z)) (va_runS (As := [.int n, .int 1, .int 99]) (rest := []) ⟨hx, hb, hml, hown, htb⟩ (c_X7_in l dC dI k n 1 99 _ ) (va_cwS 3 htb (gzS wmt4_62 wmt4_63 wmt1_8 wmt4_64) rfl rfl rfl (by decide +kernel) ⟨Nat.le_of_ble_eq_true rfl, Nat.le_of_ble_eq_true rfl⟩) (zp0_S hK) rfl rfl hl.1 rfl (lv_room (Nat.le_of_ble_eq_true rfl)) dX7_has_11 ⟨Nat.le_of_ble_eq_true rfl, Nat.le_of_ble_eq_true rfl⟩) hP hS hA (fun r_9 u_10 H locs w_11 hP hS => ?_)
      rcases w_11 with ⟨e_13, h_12⟩ | ⟨e_15, h_14⟩
      · skip
        replace e_13 : r_9 = 1 := e_13
        subst e_13
        replace h_12 : (1 : Int32).toInt ≤ n.toInt ∧ n.toInt ≤ (99 : Int32).toInt := h_12
        rw [show (1 : Int32).toInt = 1 by decide, show (99 : Int32).toInt = 99 by decide] at h_12
        refine lv_if_eq (tgt := 26) hx hb dX7_has_14 (by decide) (fun c_16 => ?_) (fun c_16 => ?_)
        · skip
          exact absurd c_16 (by decide)
        · skip
          refine lv_iload_n hx hb dX7_has_17 rfl (lv_at hl 3 rfl) ?_
          refine lv_iconst (v := 0) hx hb dX7_has_18 (by decide) ?_
          refine lv_iconst (v := 1) hx hb dX7_has_19 (by decide) ?_
          refine zc0_i (w := (zM k q z)) (va_runS (As := [.int w, .int 0, .int 1]) (rest := []) ⟨hx, hb, hml, hown, htb⟩ (c_X7_in l dC dI k w 0 1 _ ) (va_cwS 3 htb (gzS wmt4_62 wmt4_63 wmt1_8 wmt4_64) rfl rfl rfl (by decide +kernel) ⟨Nat.le_of_ble_eq_true rfl, Nat.le_of_ble_eq_true rfl⟩) (zp0_S hK) rfl rfl hl.1 rfl (lv_room (Nat.le_of_ble_eq_true rfl)) dX7_has_20 ⟨Nat.le_of_ble_eq_true rfl, Nat.le_of_ble_eq_true rfl⟩) hP hS hA (fun r_17 u_18 H locs w_19 hP hS => ?_)
          rcases w_19 with ⟨e_21, h_20⟩ | ⟨e_23, h_22⟩
          · skip
            replace e_21 : r_17 = 1 := e_21
            subst e_21
            replace h_20 : (0 : Int32).toInt ≤ w.toInt ∧ w.toInt ≤ (1 : Int32).toInt := h_20
            rw [show (0 : Int32).toInt = 0 by decide, show (1 : Int32).toInt = 1 by decide] at h_20
            refine lv_if_ne (tgt := 32) hx hb dX7_has_23 (by decide) (fun c_24 => ?_) (fun c_24 => ?_)
            · skip
              refine lv_aload_n hx hb dX7_has_32 rfl (lv_at hl 0 rfl) ?_
              refine lv_iload_n hx hb dX7_has_33 rfl (lv_at hl 1 rfl) ?_
              refine zcA_i (w := (zM k q z)) (va_runV (As := [.int pe]) (rest := []) ⟨hx, hb, hml, hown, htb⟩ (c_X7_givenOf l dC dI k q z pe _ hI) (cwV 1 htb (gzV wmt5_44 wmt5_46 wmp4_0 wmt1_8 wmt5_47) rfl rfl rfl (by decide +kernel) ⟨Nat.le_of_ble_eq_true rfl, Nat.le_of_ble_eq_true rfl⟩) (zpA_V (ci := 7) (q0 := 0) hK hP (hDa _) rfl rfl) rfl rfl hl.1 rfl (lv_room (Nat.le_of_ble_eq_true rfl)) dX7_has_34 ⟨Nat.le_of_ble_eq_true rfl, Nat.le_of_ble_eq_true rfl⟩) (hDa _) hS hA (fun r_25 u_26 H locs w_27 hP _ hS => ?_)
              obtain ⟨o4_28, o5_29, o6_30, o7_31, o8_32, o9_33, o10_34, o12_35, o13_36, o14_37, o15_38, o16_39, o17_40, o18_41, oa_42, ob_43, o33_44, o34_45⟩ := u_26
              have hP : va_P (dC, dI) vwCl (zM k q (sA (sI (sJ (sJ (sA (sA (sA (sI (sI (sI (sI (sA (sA (sA (sA (sA (sA (sA z 4 o4_28) 5 o5_29) 6 o6_30) 7 o7_31) 8 o8_32) 9 o9_33) 10 o10_34) 12 o12_35) 13 o13_36) 14 o14_37) 15 o15_38) 16 o16_39) 17 o17_40) 18 o18_41) 0 oa_42) 1 ob_43) 33 o33_44) 34 o34_45)) H := hP
              obtain ⟨h_46, h_47, h_48⟩ := w_27
              replace h_46 : MD (FR ((z.2.2.1 2)) ((z.2.2.1 3))) o4_28 o5_29 o6_30 o7_31 o8_32 o9_33 o10_34 := h_46
              replace h_47 : r_25.toInt = 0 → (0 ≤ oa_42.toInt ∧ oa_42.toInt ≤ 1000000000) ∧ (1 ≤ ob_43.toInt ∧ ob_43.toInt ≤ 1000000000) := h_47
              replace h_48 : RK ((z.2.2.1 4)) ((z.2.2.1 5)) o4_28 o5_29 := h_48
              have hI : MInv (sA (sI (sJ (sJ (sA (sA (sA (sI (sI (sI (sI (sA (sA (sA (sA (sA (sA (sA z 4 o4_28) 5 o5_29) 6 o6_30) 7 o7_31) 8 o8_32) 9 o9_33) 10 o10_34) 12 o12_35) 13 o13_36) 14 o14_37) 15 o15_38) 16 o16_39) 17 o17_40) 18 o18_41) 0 oa_42) 1 ob_43) 33 o33_44) 34 o34_45) := ⟨hI.1, hI.2.1, hI.2.2.1, hI.2.2.2.1, hI.2.2.2.2.1, h_46⟩
              have hgo := h_47
              refine lv_istore (lv' := [(4, .int r_25), (0, .ref (q 0)), (1, .int pe), (2, .int n), (3, .int w)]) hx hb dX7_has_37 hl (by decide) rfl (fun ls hl => ?_)
              refine lv_iload hx hb dX7_has_39 (lv_at hl 0 rfl) ?_
              refine lv_bipush (v := (-3)) hx hb dX7_has_41 (by decide) ?_
              refine lv_icmp_ne (tgt := 55) hx hb dX7_has_43 (by decide) (fun c_50 => ?_) (fun c_50 => ?_)
              · skip
                have hc_50 := zb_ne rfl (show ((-3) : Int32).toInt = (-3) by decide) c_50
                refine lv_iload hx hb dX7_has_55 (lv_at hl 0 rfl) ?_
                refine lv_if_eq (tgt := 66) hx hb dX7_has_57 (by decide) (fun c_51 => ?_) (fun c_51 => ?_)
                · skip
                  have hc_51 := zb_eq rfl (show (0 : Int32).toInt = 0 by decide) c_51
                  have hgo2 := hgo (by omega)
                  refine lv_aload_n hx hb dX7_has_66 rfl (lv_at hl 1 rfl) ?_
                  refine lv_iload_n hx hb dX7_has_67 rfl (lv_at hl 3 rfl) ?_
                  refine lv_i2l (v := n.toInt64) hx hb dX7_has_68 rfl ?_
                  refine lv_topl (fun x_52 ex_52 => ?_)
                  have hx_52 : x_52.toInt = n.toInt := by rw [ex_52]; exact Jvm.Kit.i64_of_i32 _
                  refine lv_aload_n hx hb dX7_has_69 rfl (lv_at hl 1 rfl) ?_
                  refine va_get (D := (dC, dI)) (ci := 7) (v := .long oa_42) (C := RX7) (T := TX7) (N := 42) hx hb htb inw7 hown hK.1 hP 0 rfl rfl 0 (by decide) (htb _ wmt3_167) (fun _ h9 => h9) rfl dX7_has_70 ?_
                  refine lv_lmul hx hb dX7_has_73 ?_
                  refine lv_topl (fun x_53 ex_53 => ?_)
                  have qx_53 := z_mulb (a := x_52.toInt) (b := oa_42.toInt) (A := 99) (B := 1000000000) (by omega) (by omega)
                  have hx_53 := zl_mul ex_53 rfl rfl (by omega)
                  refine lv_iload_n hx hb dX7_has_74 rfl (lv_at hl 3 rfl) ?_
                  refine lv_i2l (v := n.toInt64) hx hb dX7_has_75 rfl ?_
                  refine lv_topl (fun x_54 ex_54 => ?_)
                  have hx_54 : x_54.toInt = n.toInt := by rw [ex_54]; exact Jvm.Kit.i64_of_i32 _
                  refine lv_aload_n hx hb dX7_has_76 rfl (lv_at hl 1 rfl) ?_
                  refine va_get (D := (dC, dI)) (ci := 7) (v := .long oa_42) (C := RX7) (T := TX7) (N := 42) hx hb htb inw7 hown hK.1 hP 0 rfl rfl 0 (by decide) (htb _ wmt3_167) (fun _ h9 => h9) rfl dX7_has_77 ?_
                  refine lv_lmul hx hb dX7_has_80 ?_
                  refine lv_topl (fun x_55 ex_55 => ?_)
                  have qx_55 := z_mulb (a := x_54.toInt) (b := oa_42.toInt) (A := 99) (B := 1000000000) (by omega) (by omega)
                  have hx_55 := zl_mul ex_55 rfl rfl (by omega)
                  refine lv_ldc2 (v := 100) hx hb hown (htb _ wmt5_15) dX7_has_81 ?_
                  refine lv_iload_n hx hb dX7_has_84 rfl (lv_at hl 3 rfl) ?_
                  refine lv_i2l (v := n.toInt64) hx hb dX7_has_85 rfl ?_
                  refine lv_topl (fun x_56 ex_56 => ?_)
                  have hx_56 : x_56.toInt = n.toInt := by rw [ex_56]; exact Jvm.Kit.i64_of_i32 _
                  refine lv_lsub hx hb dX7_has_86 ?_
                  refine lv_topl (fun x_57 ex_57 => ?_)
                  have hx_57 := zl_sub ex_57 (show (100 : Int64).toInt = 100 by decide) rfl (by omega)
                  refine lv_aload_n hx hb dX7_has_87 rfl (lv_at hl 1 rfl) ?_
                  refine va_get (D := (dC, dI)) (ci := 7) (v := .long ob_43) (C := RX7) (T := TX7) (N := 42) hx hb htb inw7 hown hK.1 hP 0 rfl rfl 1 (by decide) (htb _ wmt3_168) (fun _ h9 => h9) rfl dX7_has_88 ?_
                  refine lv_lmul hx hb dX7_has_91 ?_
                  refine lv_topl (fun x_58 ex_58 => ?_)
                  have qx_58 := z_mulb (a := x_57.toInt) (b := ob_43.toInt) (A := 99) (B := 1000000000) (by omega) (by omega)
                  have px_58 : 1 * 1 ≤ x_57.toInt * ob_43.toInt := Int.mul_le_mul (by omega) (by omega) (by decide) (by omega)
                  have hx_58 := zl_mul ex_58 rfl rfl (by omega)
                  refine lv_ladd hx hb dX7_has_92 ?_
                  refine lv_topl (fun x_59 ex_59 => ?_)
                  have hx_59 := zl_add ex_59 rfl rfl (by omega)
                  refine zcA_v (w := (zM k q (sA (sI (sJ (sJ (sA (sA (sA (sI (sI (sI (sI (sA (sA (sA (sA (sA (sA (sA z 4 o4_28) 5 o5_29) 6 o6_30) 7 o7_31) 8 o8_32) 9 o9_33) 10 o10_34) 12 o12_35) 13 o13_36) 14 o14_37) 15 o15_38) 16 o16_39) 17 o17_40) 18 o18_41) 0 oa_42) 1 ob_43) 33 o33_44) 34 o34_45))) (va_runV (As := [.long x_53, .long x_59]) (rest := []) ⟨hx, hb, hml, hown, htb⟩ (c_X7_is l dC dI k q (sA (sI (sJ (sJ (sA (sA (sA (sI (sI (sI (sI (sA (sA (sA (sA (sA (sA (sA z 4 o4_28) 5 o5_29) 6 o6_30) 7 o7_31) 8 o8_32) 9 o9_33) 10 o10_34) 12 o12_35) 13 o13_36) 14 o14_37) 15 o15_38) 16 o16_39) 17 o17_40) 18 o18_41) 0 oa_42) 1 ob_43) 33 o33_44) 34 o34_45) x_53 x_59 _ (show (-4611686018427387904 < x_53.toInt ∧ x_53.toInt < 4611686018427387904) by omega) (show (-4611686018427387904 < x_59.toInt ∧ x_59.toInt < 4611686018427387904) by omega) (show x_59.toInt ≠ 0 by omega)) (cwV 2 htb (gzV wmt4_129 wmt4_131 wmp3_0 wmt1_8 wmt4_132) rfl rfl rfl (by decide +kernel) ⟨Nat.le_of_ble_eq_true rfl, Nat.le_of_ble_eq_true rfl⟩) (zpA_V (ci := 7) (q0 := 0) hK hP (hDa _) rfl rfl) rfl rfl hl.1 rfl (lv_room (Nat.le_of_ble_eq_true rfl)) dX7_has_93 ⟨Nat.le_of_ble_eq_true rfl, Nat.le_of_ble_eq_true rfl⟩) (hDa _) hS hA (fun u_61 H locs w_62 hP _ hS => ?_)
                  obtain ⟨oa_63, ob_64⟩ := u_61
                  have hP : va_P (dC, dI) vwCl (zM k q (sJ (sJ (sA (sI (sA (sA (sA (sI (sI (sI (sI (sA (sA (sA (sA (sA (sA (sA z 4 o4_28) 5 o5_29) 6 o6_30) 7 o7_31) 8 o8_32) 9 o9_33) 10 o10_34) 12 o12_35) 13 o13_36) 14 o14_37) 15 o15_38) 16 o16_39) 17 o17_40) 18 o18_41) 33 o33_44) 34 o34_45) 0 oa_63) 1 ob_64)) H := hP
                  obtain ⟨h_65, h_66, h_67, h_68, h_69⟩ := w_62
                  replace h_65 : 1 ≤ ob_64.toInt ∧ ob_64.toInt ≤ (x_59.toInt.natAbs : Int) := h_65
                  replace h_66 : (oa_63.toInt.natAbs : Int) ≤ (x_53.toInt.natAbs : Int) := h_66
                  replace h_67 : (0 ≤ x_53.toInt → 0 < x_59.toInt → 0 ≤ oa_63.toInt) ∧ (0 < x_53.toInt → 0 < x_59.toInt → 1 ≤ oa_63.toInt) := h_67
                  replace h_68 : ob_64.toInt = ((x_59.toInt.natAbs / Nat.gcd x_53.toInt.natAbs x_59.toInt.natAbs : Nat) : Int) := h_68
                  replace h_69 : oa_63.toInt = x_53.toInt.tdiv (if x_59.toInt < 0 then -(Nat.gcd x_53.toInt.natAbs x_59.toInt.natAbs : Int) else (Nat.gcd x_53.toInt.natAbs x_59.toInt.natAbs : Int)) := h_69
                  refine lv_aload_n hx hb dX7_has_96 rfl (lv_at hl 1 rfl) ?_
                  refine lv_iload_n hx hb dX7_has_97 rfl (lv_at hl 4 rfl) ?_
                  refine zcA_l (w := (zM k q (sJ (sJ (sA (sI (sA (sA (sA (sI (sI (sI (sI (sA (sA (sA (sA (sA (sA (sA z 4 o4_28) 5 o5_29) 6 o6_30) 7 o7_31) 8 o8_32) 9 o9_33) 10 o10_34) 12 o12_35) 13 o13_36) 14 o14_37) 15 o15_38) 16 o16_39) 17 o17_40) 18 o18_41) 33 o33_44) 34 o34_45) 0 oa_63) 1 ob_64))) (va_runV (As := [.int w]) (rest := []) ⟨hx, hb, hml, hown, htb⟩ (c_X7_part l dC dI k q (sJ (sJ (sA (sI (sA (sA (sA (sI (sI (sI (sI (sA (sA (sA (sA (sA (sA (sA z 4 o4_28) 5 o5_29) 6 o6_30) 7 o7_31) 8 o8_32) 9 o9_33) 10 o10_34) 12 o12_35) 13 o13_36) 14 o14_37) 15 o15_38) 16 o16_39) 17 o17_40) 18 o18_41) 33 o33_44) 34 o34_45) 0 oa_63) 1 ob_64) w _ ) (cwV 1 htb (gzV wmt4_133 wmt4_135 wmp3_1 wmt1_8 wmt4_136) rfl rfl rfl (by decide +kernel) ⟨Nat.le_of_ble_eq_true rfl, Nat.le_of_ble_eq_true rfl⟩) (zpA_V (ci := 7) (q0 := 0) hK hP (hDa _) rfl rfl) rfl rfl hl.1 rfl (lv_room (Nat.le_of_ble_eq_true rfl)) dX7_has_98 ⟨Nat.le_of_ble_eq_true rfl, Nat.le_of_ble_eq_true rfl⟩) (hDa _) hS hA (fun r_71 u_72 H locs w_73 hP _ hS => ?_)
                  exact W.lret (v := r_71) hx hb hr (fun t ht hW => ⟨⟨r_71, (o4_28, o5_29, o6_30, o7_31, o8_32, o9_33, o10_34, o12_35, o13_36, o14_37, o15_38, o16_39, o17_40, o18_41, oa_63, ob_64, o33_44, o34_45), rfl, (show (MD (FR (z.2.2.1 2) (z.2.2.1 3)) o4_28 o5_29 o6_30 o7_31 o8_32 o9_33 o10_34) from hI.2.2.2.2.2), ⟨by rw [ht]; exact hP, hDa _⟩⟩, hS.F ht⟩) hS.2.2 dX7_has_101
                · skip
                  have hc_51 := zb_ne rfl (show (0 : Int32).toInt = 0 by decide) c_51
                  refine lv_iload hx hb dX7_has_60 (lv_at hl 0 rfl) ?_
                  refine zc0_l (w := (zM k q (sA (sI (sJ (sJ (sA (sA (sA (sI (sI (sI (sI (sA (sA (sA (sA (sA (sA (sA z 4 o4_28) 5 o5_29) 6 o6_30) 7 o7_31) 8 o8_32) 9 o9_33) 10 o10_34) 12 o12_35) 13 o13_36) 14 o14_37) 15 o15_38) 16 o16_39) 17 o17_40) 18 o18_41) 0 oa_42) 1 ob_43) 33 o33_44) 34 o34_45))) (va_runS (As := [.int r_25]) (rest := []) ⟨hx, hb, hml, hown, htb⟩ (c_X7_told l dC dI k r_25 _ ) (va_cwS 1 htb (gzS wmt4_116 wmt4_117 wmt1_8 wmt4_118) rfl rfl rfl (by decide +kernel) ⟨Nat.le_of_ble_eq_true rfl, Nat.le_of_ble_eq_true rfl⟩) (zp0_S hK) rfl rfl hl.1 rfl (lv_room (Nat.le_of_ble_eq_true rfl)) dX7_has_62 ⟨Nat.le_of_ble_eq_true rfl, Nat.le_of_ble_eq_true rfl⟩) hP hS hA (fun r_74 u_75 H locs w_76 hP hS => ?_)
                  exact W.lret (v := r_74) hx hb hr (fun t ht hW => ⟨⟨r_74, (o4_28, o5_29, o6_30, o7_31, o8_32, o9_33, o10_34, o12_35, o13_36, o14_37, o15_38, o16_39, o17_40, o18_41, oa_42, ob_43, o33_44, o34_45), rfl, (show (MD (FR (z.2.2.1 2) (z.2.2.1 3)) o4_28 o5_29 o6_30 o7_31 o8_32 o9_33 o10_34) from hI.2.2.2.2.2), ⟨by rw [ht]; exact hP, hDa _⟩⟩, hS.F ht⟩) hS.2.2 dX7_has_65
              · skip
                have hc_50 := zb_eq rfl (show ((-3) : Int32).toInt = (-3) by decide) c_50
                refine lv_aload_n hx hb dX7_has_46 rfl (lv_at hl 1 rfl) ?_
                refine va_get (D := (dC, dI)) (ci := 7) (v := .int o33_44) (C := RX7) (T := TX7) (N := 42) hx hb htb inw7 hown hK.1 hP 0 rfl rfl 33 (by decide) (htb _ wmt3_200) (fun _ h9 => h9) rfl dX7_has_47 ?_
                refine lv_if_eq (tgt := 55) hx hb dX7_has_50 (by decide) (fun c_77 => ?_) (fun c_77 => ?_)
                · skip
                  have hc_77 := zb_eq rfl (show (0 : Int32).toInt = 0 by decide) c_77
                  refine lv_iload hx hb dX7_has_55 (lv_at hl 0 rfl) ?_
                  refine lv_if_eq (tgt := 66) hx hb dX7_has_57 (by decide) (fun c_78 => ?_) (fun c_78 => ?_)
                  · skip
                    have hc_78 := zb_eq rfl (show (0 : Int32).toInt = 0 by decide) c_78
                    have hgo2 := hgo (by omega)
                    refine lv_aload_n hx hb dX7_has_66 rfl (lv_at hl 1 rfl) ?_
                    refine lv_iload_n hx hb dX7_has_67 rfl (lv_at hl 3 rfl) ?_
                    refine lv_i2l (v := n.toInt64) hx hb dX7_has_68 rfl ?_
                    refine lv_topl (fun x_79 ex_79 => ?_)
                    have hx_79 : x_79.toInt = n.toInt := by rw [ex_79]; exact Jvm.Kit.i64_of_i32 _
                    refine lv_aload_n hx hb dX7_has_69 rfl (lv_at hl 1 rfl) ?_
                    refine va_get (D := (dC, dI)) (ci := 7) (v := .long oa_42) (C := RX7) (T := TX7) (N := 42) hx hb htb inw7 hown hK.1 hP 0 rfl rfl 0 (by decide) (htb _ wmt3_167) (fun _ h9 => h9) rfl dX7_has_70 ?_
                    refine lv_lmul hx hb dX7_has_73 ?_
                    refine lv_topl (fun x_80 ex_80 => ?_)
                    have qx_80 := z_mulb (a := x_79.toInt) (b := oa_42.toInt) (A := 99) (B := 1000000000) (by omega) (by omega)
                    have hx_80 := zl_mul ex_80 rfl rfl (by omega)
                    refine lv_iload_n hx hb dX7_has_74 rfl (lv_at hl 3 rfl) ?_
                    refine lv_i2l (v := n.toInt64) hx hb dX7_has_75 rfl ?_
                    refine lv_topl (fun x_81 ex_81 => ?_)
                    have hx_81 : x_81.toInt = n.toInt := by rw [ex_81]; exact Jvm.Kit.i64_of_i32 _
                    refine lv_aload_n hx hb dX7_has_76 rfl (lv_at hl 1 rfl) ?_
                    refine va_get (D := (dC, dI)) (ci := 7) (v := .long oa_42) (C := RX7) (T := TX7) (N := 42) hx hb htb inw7 hown hK.1 hP 0 rfl rfl 0 (by decide) (htb _ wmt3_167) (fun _ h9 => h9) rfl dX7_has_77 ?_
                    refine lv_lmul hx hb dX7_has_80 ?_
                    refine lv_topl (fun x_82 ex_82 => ?_)
                    have qx_82 := z_mulb (a := x_81.toInt) (b := oa_42.toInt) (A := 99) (B := 1000000000) (by omega) (by omega)
                    have hx_82 := zl_mul ex_82 rfl rfl (by omega)
                    refine lv_ldc2 (v := 100) hx hb hown (htb _ wmt5_15) dX7_has_81 ?_
                    refine lv_iload_n hx hb dX7_has_84 rfl (lv_at hl 3 rfl) ?_
                    refine lv_i2l (v := n.toInt64) hx hb dX7_has_85 rfl ?_
                    refine lv_topl (fun x_83 ex_83 => ?_)
                    have hx_83 : x_83.toInt = n.toInt := by rw [ex_83]; exact Jvm.Kit.i64_of_i32 _
                    refine lv_lsub hx hb dX7_has_86 ?_
                    refine lv_topl (fun x_84 ex_84 => ?_)
                    have hx_84 := zl_sub ex_84 (show (100 : Int64).toInt = 100 by decide) rfl (by omega)
                    refine lv_aload_n hx hb dX7_has_87 rfl (lv_at hl 1 rfl) ?_
                    refine va_get (D := (dC, dI)) (ci := 7) (v := .long ob_43) (C := RX7) (T := TX7) (N := 42) hx hb htb inw7 hown hK.1 hP 0 rfl rfl 1 (by decide) (htb _ wmt3_168) (fun _ h9 => h9) rfl dX7_has_88 ?_
                    refine lv_lmul hx hb dX7_has_91 ?_
                    refine lv_topl (fun x_85 ex_85 => ?_)
                    have qx_85 := z_mulb (a := x_84.toInt) (b := ob_43.toInt) (A := 99) (B := 1000000000) (by omega) (by omega)
                    have px_85 : 1 * 1 ≤ x_84.toInt * ob_43.toInt := Int.mul_le_mul (by omega) (by omega) (by decide) (by omega)
                    have hx_85 := zl_mul ex_85 rfl rfl (by omega)
                    refine lv_ladd hx hb dX7_has_92 ?_
                    refine lv_topl (fun x_86 ex_86 => ?_)
                    have hx_86 := zl_add ex_86 rfl rfl (by omega)
                    refine zcA_v (w := (zM k q (sA (sI (sJ (sJ (sA (sA (sA (sI (sI (sI (sI (sA (sA (sA (sA (sA (sA (sA z 4 o4_28) 5 o5_29) 6 o6_30) 7 o7_31) 8 o8_32) 9 o9_33) 10 o10_34) 12 o12_35) 13 o13_36) 14 o14_37) 15 o15_38) 16 o16_39) 17 o17_40) 18 o18_41) 0 oa_42) 1 ob_43) 33 o33_44) 34 o34_45))) (va_runV (As := [.long x_80, .long x_86]) (rest := []) ⟨hx, hb, hml, hown, htb⟩ (c_X7_is l dC dI k q (sA (sI (sJ (sJ (sA (sA (sA (sI (sI (sI (sI (sA (sA (sA (sA (sA (sA (sA z 4 o4_28) 5 o5_29) 6 o6_30) 7 o7_31) 8 o8_32) 9 o9_33) 10 o10_34) 12 o12_35) 13 o13_36) 14 o14_37) 15 o15_38) 16 o16_39) 17 o17_40) 18 o18_41) 0 oa_42) 1 ob_43) 33 o33_44) 34 o34_45) x_80 x_86 _ (show (-4611686018427387904 < x_80.toInt ∧ x_80.toInt < 4611686018427387904) by omega) (show (-4611686018427387904 < x_86.toInt ∧ x_86.toInt < 4611686018427387904) by omega) (show x_86.toInt ≠ 0 by omega)) (cwV 2 htb (gzV wmt4_129 wmt4_131 wmp3_0 wmt1_8 wmt4_132) rfl rfl rfl (by decide +kernel) ⟨Nat.le_of_ble_eq_true rfl, Nat.le_of_ble_eq_true rfl⟩) (zpA_V (ci := 7) (q0 := 0) hK hP (hDa _) rfl rfl) rfl rfl hl.1 rfl (lv_room (Nat.le_of_ble_eq_true rfl)) dX7_has_93 ⟨Nat.le_of_ble_eq_true rfl, Nat.le_of_ble_eq_true rfl⟩) (hDa _) hS hA (fun u_88 H locs w_89 hP _ hS => ?_)
                    obtain ⟨oa_90, ob_91⟩ := u_88
                    have hP : va_P (dC, dI) vwCl (zM k q (sJ (sJ (sA (sI (sA (sA (sA (sI (sI (sI (sI (sA (sA (sA (sA (sA (sA (sA z 4 o4_28) 5 o5_29) 6 o6_30) 7 o7_31) 8 o8_32) 9 o9_33) 10 o10_34) 12 o12_35) 13 o13_36) 14 o14_37) 15 o15_38) 16 o16_39) 17 o17_40) 18 o18_41) 33 o33_44) 34 o34_45) 0 oa_90) 1 ob_91)) H := hP
                    obtain ⟨h_92, h_93, h_94, h_95, h_96⟩ := w_89
                    replace h_92 : 1 ≤ ob_91.toInt ∧ ob_91.toInt ≤ (x_86.toInt.natAbs : Int) := h_92
                    replace h_93 : (oa_90.toInt.natAbs : Int) ≤ (x_80.toInt.natAbs : Int) := h_93
                    replace h_94 : (0 ≤ x_80.toInt → 0 < x_86.toInt → 0 ≤ oa_90.toInt) ∧ (0 < x_80.toInt → 0 < x_86.toInt → 1 ≤ oa_90.toInt) := h_94
                    replace h_95 : ob_91.toInt = ((x_86.toInt.natAbs / Nat.gcd x_80.toInt.natAbs x_86.toInt.natAbs : Nat) : Int) := h_95
                    replace h_96 : oa_90.toInt = x_80.toInt.tdiv (if x_86.toInt < 0 then -(Nat.gcd x_80.toInt.natAbs x_86.toInt.natAbs : Int) else (Nat.gcd x_80.toInt.natAbs x_86.toInt.natAbs : Int)) := h_96
                    refine lv_aload_n hx hb dX7_has_96 rfl (lv_at hl 1 rfl) ?_
                    refine lv_iload_n hx hb dX7_has_97 rfl (lv_at hl 4 rfl) ?_
                    refine zcA_l (w := (zM k q (sJ (sJ (sA (sI (sA (sA (sA (sI (sI (sI (sI (sA (sA (sA (sA (sA (sA (sA z 4 o4_28) 5 o5_29) 6 o6_30) 7 o7_31) 8 o8_32) 9 o9_33) 10 o10_34) 12 o12_35) 13 o13_36) 14 o14_37) 15 o15_38) 16 o16_39) 17 o17_40) 18 o18_41) 33 o33_44) 34 o34_45) 0 oa_90) 1 ob_91))) (va_runV (As := [.int w]) (rest := []) ⟨hx, hb, hml, hown, htb⟩ (c_X7_part l dC dI k q (sJ (sJ (sA (sI (sA (sA (sA (sI (sI (sI (sI (sA (sA (sA (sA (sA (sA (sA z 4 o4_28) 5 o5_29) 6 o6_30) 7 o7_31) 8 o8_32) 9 o9_33) 10 o10_34) 12 o12_35) 13 o13_36) 14 o14_37) 15 o15_38) 16 o16_39) 17 o17_40) 18 o18_41) 33 o33_44) 34 o34_45) 0 oa_90) 1 ob_91) w _ ) (cwV 1 htb (gzV wmt4_133 wmt4_135 wmp3_1 wmt1_8 wmt4_136) rfl rfl rfl (by decide +kernel) ⟨Nat.le_of_ble_eq_true rfl, Nat.le_of_ble_eq_true rfl⟩) (zpA_V (ci := 7) (q0 := 0) hK hP (hDa _) rfl rfl) rfl rfl hl.1 rfl (lv_room (Nat.le_of_ble_eq_true rfl)) dX7_has_98 ⟨Nat.le_of_ble_eq_true rfl, Nat.le_of_ble_eq_true rfl⟩) (hDa _) hS hA (fun r_98 u_99 H locs w_100 hP _ hS => ?_)
                    exact W.lret (v := r_98) hx hb hr (fun t ht hW => ⟨⟨r_98, (o4_28, o5_29, o6_30, o7_31, o8_32, o9_33, o10_34, o12_35, o13_36, o14_37, o15_38, o16_39, o17_40, o18_41, oa_90, ob_91, o33_44, o34_45), rfl, (show (MD (FR (z.2.2.1 2) (z.2.2.1 3)) o4_28 o5_29 o6_30 o7_31 o8_32 o9_33 o10_34) from hI.2.2.2.2.2), ⟨by rw [ht]; exact hP, hDa _⟩⟩, hS.F ht⟩) hS.2.2 dX7_has_101
                  · skip
                    have hc_78 := zb_ne rfl (show (0 : Int32).toInt = 0 by decide) c_78
                    refine lv_iload hx hb dX7_has_60 (lv_at hl 0 rfl) ?_
                    refine zc0_l (w := (zM k q (sA (sI (sJ (sJ (sA (sA (sA (sI (sI (sI (sI (sA (sA (sA (sA (sA (sA (sA z 4 o4_28) 5 o5_29) 6 o6_30) 7 o7_31) 8 o8_32) 9 o9_33) 10 o10_34) 12 o12_35) 13 o13_36) 14 o14_37) 15 o15_38) 16 o16_39) 17 o17_40) 18 o18_41) 0 oa_42) 1 ob_43) 33 o33_44) 34 o34_45))) (va_runS (As := [.int r_25]) (rest := []) ⟨hx, hb, hml, hown, htb⟩ (c_X7_told l dC dI k r_25 _ ) (va_cwS 1 htb (gzS wmt4_116 wmt4_117 wmt1_8 wmt4_118) rfl rfl rfl (by decide +kernel) ⟨Nat.le_of_ble_eq_true rfl, Nat.le_of_ble_eq_true rfl⟩) (zp0_S hK) rfl rfl hl.1 rfl (lv_room (Nat.le_of_ble_eq_true rfl)) dX7_has_62 ⟨Nat.le_of_ble_eq_true rfl, Nat.le_of_ble_eq_true rfl⟩) hP hS hA (fun r_101 u_102 H locs w_103 hP hS => ?_)
                    exact W.lret (v := r_101) hx hb hr (fun t ht hW => ⟨⟨r_101, (o4_28, o5_29, o6_30, o7_31, o8_32, o9_33, o10_34, o12_35, o13_36, o14_37, o15_38, o16_39, o17_40, o18_41, oa_42, ob_43, o33_44, o34_45), rfl, (show (MD (FR (z.2.2.1 2) (z.2.2.1 3)) o4_28 o5_29 o6_30 o7_31 o8_32 o9_33 o10_34) from hI.2.2.2.2.2), ⟨by rw [ht]; exact hP, hDa _⟩⟩, hS.F ht⟩) hS.2.2 dX7_has_65
                · skip
                  have hc_77 := zb_ne rfl (show (0 : Int32).toInt = 0 by decide) c_77
                  refine lv_lconst (v := 1) hx hb dX7_has_53 (by decide) ?_
                  exact W.lret (v := 1) hx hb hr (fun t ht hW => ⟨⟨1, (o4_28, o5_29, o6_30, o7_31, o8_32, o9_33, o10_34, o12_35, o13_36, o14_37, o15_38, o16_39, o17_40, o18_41, oa_42, ob_43, o33_44, o34_45), rfl, (show (MD (FR (z.2.2.1 2) (z.2.2.1 3)) o4_28 o5_29 o6_30 o7_31 o8_32 o9_33 o10_34) from hI.2.2.2.2.2), ⟨by rw [ht]; exact hP, hDa _⟩⟩, hS.F ht⟩) hS.2.2 dX7_has_54
            · skip
              exact absurd c_24 (by decide)
          · skip
            replace e_23 : r_17 = 0 := e_23
            subst e_23
            replace h_22 : ¬ ((0 : Int32).toInt ≤ w.toInt ∧ w.toInt ≤ (1 : Int32).toInt) := h_22
            rw [show (0 : Int32).toInt = 0 by decide, show (1 : Int32).toInt = 1 by decide] at h_22
            refine lv_if_ne (tgt := 32) hx hb dX7_has_23 (by decide) (fun c_104 => ?_) (fun c_104 => ?_)
            · skip
              exact absurd c_104 (by decide)
            · skip
              refine lv_bipush (v := (-2)) hx hb dX7_has_26 (by decide) ?_
              refine zc0_l (w := (zM k q z)) (va_runS (As := [.int (-2)]) (rest := []) ⟨hx, hb, hml, hown, htb⟩ (c_X7_told l dC dI k (-2) _ ) (va_cwS 1 htb (gzS wmt4_116 wmt4_117 wmt1_8 wmt4_118) rfl rfl rfl (by decide +kernel) ⟨Nat.le_of_ble_eq_true rfl, Nat.le_of_ble_eq_true rfl⟩) (zp0_S hK) rfl rfl hl.1 rfl (lv_room (Nat.le_of_ble_eq_true rfl)) dX7_has_28 ⟨Nat.le_of_ble_eq_true rfl, Nat.le_of_ble_eq_true rfl⟩) hP hS hA (fun r_105 u_106 H locs w_107 hP hS => ?_)
              exact W.lret (v := r_105) hx hb hr (fun t ht hW => ⟨⟨r_105, (z.2.2.1 4, z.2.2.1 5, z.2.2.1 6, z.2.2.1 7, z.2.2.1 8, z.2.2.1 9, z.2.2.1 10, z.1 12, z.1 13, z.1 14, z.1 15, z.2.2.1 16, z.2.2.1 17, z.2.2.1 18, z.2.1 0, z.2.1 1, z.1 33, z.2.2.1 34), rfl, (show (MD (FR (z.2.2.1 2) (z.2.2.1 3)) (z.2.2.1 4) (z.2.2.1 5) (z.2.2.1 6) (z.2.2.1 7) (z.2.2.1 8) (z.2.2.1 9) (z.2.2.1 10)) from hI.2.2.2.2.2), ⟨by rw [ht]; exact hP, hDa _⟩⟩, hS.F ht⟩) hS.2.2 dX7_has_31
      · skip
        replace e_15 : r_9 = 0 := e_15
        subst e_15
        replace h_14 : ¬ ((1 : Int32).toInt ≤ n.toInt ∧ n.toInt ≤ (99 : Int32).toInt) := h_14
        rw [show (1 : Int32).toInt = 1 by decide, show (99 : Int32).toInt = 99 by decide] at h_14
        refine lv_if_eq (tgt := 26) hx hb dX7_has_14 (by decide) (fun c_108 => ?_) (fun c_108 => ?_)
        · skip
          refine lv_bipush (v := (-2)) hx hb dX7_has_26 (by decide) ?_
          refine zc0_l (w := (zM k q z)) (va_runS (As := [.int (-2)]) (rest := []) ⟨hx, hb, hml, hown, htb⟩ (c_X7_told l dC dI k (-2) _ ) (va_cwS 1 htb (gzS wmt4_116 wmt4_117 wmt1_8 wmt4_118) rfl rfl rfl (by decide +kernel) ⟨Nat.le_of_ble_eq_true rfl, Nat.le_of_ble_eq_true rfl⟩) (zp0_S hK) rfl rfl hl.1 rfl (lv_room (Nat.le_of_ble_eq_true rfl)) dX7_has_28 ⟨Nat.le_of_ble_eq_true rfl, Nat.le_of_ble_eq_true rfl⟩) hP hS hA (fun r_109 u_110 H locs w_111 hP hS => ?_)
          exact W.lret (v := r_109) hx hb hr (fun t ht hW => ⟨⟨r_109, (z.2.2.1 4, z.2.2.1 5, z.2.2.1 6, z.2.2.1 7, z.2.2.1 8, z.2.2.1 9, z.2.2.1 10, z.1 12, z.1 13, z.1 14, z.1 15, z.2.2.1 16, z.2.2.1 17, z.2.2.1 18, z.2.1 0, z.2.1 1, z.1 33, z.2.2.1 34), rfl, (show (MD (FR (z.2.2.1 2) (z.2.2.1 3)) (z.2.2.1 4) (z.2.2.1 5) (z.2.2.1 6) (z.2.2.1 7) (z.2.2.1 8) (z.2.2.1 9) (z.2.2.1 10)) from hI.2.2.2.2.2), ⟨by rw [ht]; exact hP, hDa _⟩⟩, hS.F ht⟩) hS.2.2 dX7_has_31
        · skip
          exact absurd (by decide) c_108
  · skip
    replace e_7 : r_1 = 0 := e_7
    subst e_7
    replace h_6 : ¬ (0 ≤ pe.toInt ∧ pe.toInt < 24) := h_6
    refine lv_if_eq (tgt := 26) hx hb dX7_has_4 (by decide) (fun c_112 => ?_) (fun c_112 => ?_)
    · skip
      refine lv_bipush (v := (-2)) hx hb dX7_has_26 (by decide) ?_
      refine zc0_l (w := (zM k q z)) (va_runS (As := [.int (-2)]) (rest := []) ⟨hx, hb, hml, hown, htb⟩ (c_X7_told l dC dI k (-2) _ ) (va_cwS 1 htb (gzS wmt4_116 wmt4_117 wmt1_8 wmt4_118) rfl rfl rfl (by decide +kernel) ⟨Nat.le_of_ble_eq_true rfl, Nat.le_of_ble_eq_true rfl⟩) (zp0_S hK) rfl rfl hl.1 rfl (lv_room (Nat.le_of_ble_eq_true rfl)) dX7_has_28 ⟨Nat.le_of_ble_eq_true rfl, Nat.le_of_ble_eq_true rfl⟩) hP hS hA (fun r_113 u_114 H locs w_115 hP hS => ?_)
      exact W.lret (v := r_113) hx hb hr (fun t ht hW => ⟨⟨r_113, (z.2.2.1 4, z.2.2.1 5, z.2.2.1 6, z.2.2.1 7, z.2.2.1 8, z.2.2.1 9, z.2.2.1 10, z.1 12, z.1 13, z.1 14, z.1 15, z.2.2.1 16, z.2.2.1 17, z.2.2.1 18, z.2.1 0, z.2.1 1, z.1 33, z.2.2.1 34), rfl, (show (MD (FR (z.2.2.1 2) (z.2.2.1 3)) (z.2.2.1 4) (z.2.2.1 5) (z.2.2.1 6) (z.2.2.1 7) (z.2.2.1 8) (z.2.2.1 9) (z.2.2.1 10)) from hI.2.2.2.2.2), ⟨by rw [ht]; exact hP, hDa _⟩⟩, hS.F ht⟩) hS.2.2 dX7_has_31
    · skip
      exact absurd (by decide) c_112
