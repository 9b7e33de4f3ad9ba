set_option maxHeartbeats 4000000 in
set_option maxRecDepth 100000 in
theorem c_X6_commonDivisor_11 (l : Launch) (dC : Nat → ClassId) (dI : Nat → Nat → Nat) (k : Nat → ClassId) (T : List (ClassId × FieldType))  (sz : Nat)  : Met l yX6_commonDivisor (wz yX6_commonDivisor cX6_commonDivisor 11 (some .long)) ({ frames := 1, cells := 0, slots := 0, locals := 13 }) (va_Pc [.long 1, .long 1] (zPre dC dI k T [] sz)) (va_Ql (fun (r : Int64) (u : Unit) => r = 1) (fun u t => zPost dC dI (va_A [] sz) [] t) (va_A [] sz)) 0 0 (va_A [] sz) := by
  refine Met.ofW (cc := cX6_commonDivisor) (maxL := 11) (ret := (some .long)) (by decide) rfl ?_
  intro p e s m args below meth c s₁ B hml hv
  obtain ⟨rfl, hsz, hP, hK, hD0⟩ := hv
  have hx := B.exec
  have hb := B.bytes
  have hr := B.returns
  have hts : ∀ w ∈ zw, w.before _ s = true := fun w h => atoms_spec (ws := (wz yX6_commonDivisor cX6_commonDivisor 11 (some .long))) B.pre w (List.mem_cons_of_mem _ h)
  have hown : s.vm.findClass RX6 = some m.cls := findClass_of_methodNamed B.named
  have hlocks := B.notSynchronized
  subst hsz
  have hD := hD0.self (sz := s.heap.size)
  generalize hAe : va_A [] s.heap.size = A at hD ⊢
  have hA : ∀ q : Nat, s.heap.size ≤ q → A q := fun q h => by rw [← hAe]; exact Or.inr h
  have hl := lv_entry ([.long 1, .long 1]) (n := 11) (Nat.le_of_ble_eq_true rfl)
  rw [lg_entry_eq]
  generalize (lg_sl ([.long 1, .long 1]) ++ List.replicate (11 - (lg_sl ([.long 1, .long 1])).length) Slot.unset).toArray = ls at hl ⊢
  have hl : lv_has ls 11 [(0, .long 1), (2, .long 1)] := hl
  refine z_start (w := []) hP hD (fun H locs hP hD hS => ?_)
  refine lv_lload_n hx hb dX6_commonDivisor_0 rfl (lv_at hl 0 rfl) ?_
  refine va_mabs_long hx hb (hml.trans hl.1.symm) hown (hts _ wmt2_11) (hts _ wmt2_12) (hts _ wmt1_10) (hts _ wmt2_13) (Nat.le_of_ble_eq_true rfl) (Nat.le_of_ble_eq_true rfl) (Nat.le_of_ble_eq_true rfl) (Nat.le_of_ble_eq_true rfl) dX6_commonDivisor_1 ?_
  refine z_top (v2 := .long 1) (congrArg Value.long (by decide)) ?_
  refine lv_lstore (lv' := [(4, .long 1), (0, .long 1), (2, .long 1)]) hx hb dX6_commonDivisor_4 hl (by decide) rfl (fun ls hl => ?_)
  refine lv_lload_n hx hb dX6_commonDivisor_6 rfl (lv_at hl 2 rfl) ?_
  refine va_mabs_long hx hb (hml.trans hl.1.symm) hown (hts _ wmt2_11) (hts _ wmt2_12) (hts _ wmt1_10) (hts _ wmt2_13) (Nat.le_of_ble_eq_true rfl) (Nat.le_of_ble_eq_true rfl) (Nat.le_of_ble_eq_true rfl) (Nat.le_of_ble_eq_true rfl) dX6_commonDivisor_7 ?_
  refine z_top (v2 := .long 1) (congrArg Value.long (by decide)) ?_
  refine lv_lstore (lv' := [(6, .long 1), (4, .long 1), (0, .long 1), (2, .long 1)]) hx hb dX6_commonDivisor_10 hl (by decide) rfl (fun ls hl => ?_)
  refine lv_iconst (v := 0) hx hb dX6_commonDivisor_12 (by decide) ?_
  refine lv_istore (lv' := [(8, .int 0), (6, .long 1), (4, .long 1), (0, .long 1), (2, .long 1)]) hx hb dX6_commonDivisor_13 hl (by decide) rfl (fun ls hl => ?_)
  refine lv_iload hx hb dX6_commonDivisor_15 (lv_at hl 0 rfl) ?_
  refine lv_sipush (v := 200) hx hb dX6_commonDivisor_17 (by decide) ?_
  refine lv_icmp_ge (tgt := 51) hx hb dX6_commonDivisor_20 (by decide) (fun c_1 => ?_) (fun c_1 => ?_)
  · skip
    exact absurd c_1 (by decide)
  · skip
    refine lv_lload hx hb dX6_commonDivisor_23 (lv_at hl 1 rfl) ?_
    refine lv_lconst (v := 0) hx hb dX6_commonDivisor_25 (by decide) ?_
    refine z_lcmp hx hb dX6_commonDivisor_26 ?_
    refine z_top (v2 := .int 1) (congrArg Value.int (by decide)) ?_
    refine lv_if_eq (tgt := 51) hx hb dX6_commonDivisor_27 (by decide) (fun c_2 => ?_) (fun c_2 => ?_)
    · skip
      exact absurd c_2 (by decide)
    · skip
      refine lv_lload hx hb dX6_commonDivisor_30 (lv_at hl 2 rfl) ?_
      refine lv_lload hx hb dX6_commonDivisor_32 (lv_at hl 1 rfl) ?_
      refine lv_lrem hx hb dX6_commonDivisor_34 (by decide) ?_
      refine z_top (v2 := .long 0) (congrArg Value.long (by decide)) ?_
      refine lv_lstore (lv' := [(9, .long 0), (8, .int 0), (6, .long 1), (4, .long 1), (0, .long 1), (2, .long 1)]) hx hb dX6_commonDivisor_35 hl (by decide) rfl (fun ls hl => ?_)
      refine lv_lload hx hb dX6_commonDivisor_37 (lv_at hl 2 rfl) ?_
      refine lv_lstore (lv' := [(4, .long 1), (9, .long 0), (8, .int 0), (6, .long 1), (0, .long 1), (2, .long 1)]) hx hb dX6_commonDivisor_39 hl (by decide) rfl (fun ls hl => ?_)
      refine lv_lload hx hb dX6_commonDivisor_41 (lv_at hl 1 rfl) ?_
      refine lv_lstore (lv' := [(6, .long 0), (4, .long 1), (9, .long 0), (8, .int 0), (0, .long 1), (2, .long 1)]) hx hb dX6_commonDivisor_43 hl (by decide) rfl (fun ls hl => ?_)
      refine lv_iinc (v := 1) (lv' := [(8, .int 1), (6, .long 0), (4, .long 1), (9, .long 0), (0, .long 1), (2, .long 1)]) hx hb dX6_commonDivisor_45 hl (k := 3) rfl (by decide) (by decide) rfl (fun ls hl => ?_)
      refine lv_goto (tgt := 15) hx hb dX6_commonDivisor_48 (by decide) ?_
      refine lv_iload hx hb dX6_commonDivisor_15 (lv_at hl 0 rfl) ?_
      refine lv_sipush (v := 200) hx hb dX6_commonDivisor_17 (by decide) ?_
      refine lv_icmp_ge (tgt := 51) hx hb dX6_commonDivisor_20 (by decide) (fun c_3 => ?_) (fun c_3 => ?_)
      · skip
        exact absurd c_3 (by decide)
      · skip
        refine lv_lload hx hb dX6_commonDivisor_23 (lv_at hl 1 rfl) ?_
        refine lv_lconst (v := 0) hx hb dX6_commonDivisor_25 (by decide) ?_
        refine z_lcmp hx hb dX6_commonDivisor_26 ?_
        refine z_top (v2 := .int 0) (congrArg Value.int (by decide)) ?_
        refine lv_if_eq (tgt := 51) hx hb dX6_commonDivisor_27 (by decide) (fun c_4 => ?_) (fun c_4 => ?_)
        · skip
          refine lv_lload hx hb dX6_commonDivisor_51 (lv_at hl 2 rfl) ?_
          exact W.lret (v := 1) hx hb hr (fun t ht hW => ⟨⟨1, (), rfl, (by first | assumption | with_reducible rfl | contradiction | exact (if_pos (by repeat' (first | assumption | decide | constructor))).symm | exact (if_neg (fun hh => absurd hh (by assumption))).symm | decide | (exfalso; simp only [zi_le, zi_lt, zi_eq, zi_n0, zi_n1, zi_n2, zi_n3, zi_n4, zi_n23, zi_n24, zi_n100, zi_n399, zi_n60, zi_n255, zi_n99, zi_nm1, zi_n30] at *; omega) | (simp_all; done)), ⟨by rw [ht]; exact hP, hD⟩⟩, hS.F ht⟩) hS.2.2 dX6_commonDivisor_53
        · skip
          exact absurd (by decide) c_4
set_option maxHeartbeats 4000000 in
set_option maxRecDepth 100000 in
theorem c_X2_become_11 (l : Launch) (dC : Nat → ClassId) (dI : Nat → Nat → Nat) (k : Nat → ClassId) (T : List (ClassId × FieldType)) (h0 : Nat) (fa : Int64) (fb : Int64) (sz : Nat)  : Met l yX2_become (wz yX2_become cX2_become 7 none) ({ frames := 2, cells := 0, slots := 0, locals := 43 }) (va_Pc [.ref h0, .long 1, .long 1] (zPre dC dI k T (zFra k h0 fa fb) sz)) (va_Qv (fun (u : Unit) => True) (fun u t => zPost dC dI (va_A (zFra k h0 fa fb) sz) (zFra k h0 1 1) t) (va_A (zFra k h0 fa fb) sz)) 0 0 (va_A (zFra k h0 fa fb) sz) := by
  refine Met.ofW (cc := cX2_become) (maxL := 7) (ret := none) (by decide) rfl ?_
  intro p e s m args below meth c s₁ B hml hv
  obtain ⟨rfl, hsz, hP, hK, hD0⟩ := hv
  have hx := B.exec
  have hb := B.bytes
  have hr := B.returns
  have hts : ∀ w ∈ zw, w.before _ s = true := fun w h => atoms_spec (ws := (wz yX2_become cX2_become 7 none)) B.pre w (List.mem_cons_of_mem _ h)
  have hown : s.vm.findClass RX2 = some m.cls := findClass_of_methodNamed B.named
  have hlocks := B.notSynchronized
  subst hsz
  have hi2 := inw2
  have hD := hD0.self (sz := s.heap.size)
  generalize hAe : va_A (zFra k h0 fa fb) s.heap.size = A at hD ⊢
  have hA : ∀ q : Nat, s.heap.size ≤ q → A q := fun q h => by rw [← hAe]; exact Or.inr h
  have hl := lv_entry ([.ref h0, .long 1, .long 1]) (n := 7) (Nat.le_of_ble_eq_true rfl)
  rw [lg_entry_eq]
  generalize (lg_sl ([.ref h0, .long 1, .long 1]) ++ List.replicate (7 - (lg_sl ([.ref h0, .long 1, .long 1])).length) Slot.unset).toArray = ls at hl ⊢
  have hl : lv_has ls 7 [(0, .ref h0), (1, .long 1), (3, .long 1)] := hl
  refine z_start (w := (zFra k h0 fa fb)) hP hD (fun H locs hP hD hS => ?_)
  refine lv_lload_n hx hb dX2_become_0 rfl (lv_at hl 1 rfl) ?_
  refine lv_lload_n hx hb dX2_become_1 rfl (lv_at hl 2 rfl) ?_
  refine zc0_l (w := (zFra k h0 fa fb)) (va_runSN (As := [.long 1, .long 1]) (rest := []) ⟨hx, hb, hml, hown, hts⟩ (c_X6_commonDivisor_11 l dC dI k T  _ ) ⟨va_cnB 2 hts (wz_good wmt2_10) rfl rfl rfl hK.2.2.2.2.2.2.2.2 (hts _ wmt1_1) (by decide +kernel) ⟨Nat.le_of_ble_eq_true rfl, Nat.le_of_ble_eq_true rfl⟩, (hts _ wmt2_9), trivial⟩ (zp0_S hK) rfl rfl hl.1 rfl (lv_room (Nat.le_of_ble_eq_true rfl)) dX2_become_2 ⟨Nat.le_of_ble_eq_true rfl, Nat.le_of_ble_eq_true rfl⟩) hP hS hA (fun r_1 u_2 H locs w_3 hP hS => ?_)
  have e_4 := w_3
  replace e_4 : r_1 = 1 := e_4
  subst e_4
  refine lv_lstore (lv' := [(5, .long 1), (0, .ref h0), (1, .long 1), (3, .long 1)]) hx hb dX2_become_5 hl (by decide) rfl (fun ls hl => ?_)
  refine lv_lload_n hx hb dX2_become_7 rfl (lv_at hl 3 rfl) ?_
  refine lv_lconst (v := 0) hx hb dX2_become_8 (by decide) ?_
  refine z_lcmp hx hb dX2_become_9 ?_
  refine z_top (v2 := .int 1) (congrArg Value.int (by decide)) ?_
  refine lv_if_ge (tgt := 18) hx hb dX2_become_10 (by decide) (fun c_5 => ?_) (fun c_5 => ?_)
  · skip
    refine lv_lload hx hb dX2_become_18 (lv_at hl 0 rfl) ?_
    refine lv_lconst (v := 0) hx hb dX2_become_20 (by decide) ?_
    refine z_lcmp hx hb dX2_become_21 ?_
    refine z_top (v2 := .int 1) (congrArg Value.int (by decide)) ?_
    refine lv_if_eq (tgt := 41) hx hb dX2_become_22 (by decide) (fun c_6 => ?_) (fun c_6 => ?_)
    · skip
      exact absurd c_6 (by decide)
    · skip
      refine lv_aload_n hx hb dX2_become_25 rfl (lv_at hl 1 rfl) ?_
      refine lv_lload_n hx hb dX2_become_26 rfl (lv_at hl 2 rfl) ?_
      refine lv_lload hx hb dX2_become_27 (lv_at hl 0 rfl) ?_
      refine lv_ldiv hx hb dX2_become_29 (by decide) ?_
      refine z_top (v2 := .long 1) (congrArg Value.long (by decide)) ?_
      refine va_put (D := (dC, dI)) (ci := 2) (v := .long 1) (ty := .long) (C := RX2) (T := TX2) (N := 2) hx hb hts hi2 tyX2 tyX2_ok nmX2 hown hK.1 hP hD hS 0 rfl rfl 0 (by decide) (hts _ wmt1_103) (fun _ h9 => h9) rfl (by decide +kernel) rfl rfl (Nat.le_of_ble_eq_true rfl) dX2_become_30 (fun H locs hP hD hS => ?_)
      have hP : va_P (dC, dI) vwCl (zFra k h0 1 fb) H := hP
      have hD : va_D A (zFra k h0 1 fb) := hD
      refine lv_aload_n hx hb dX2_become_33 rfl (lv_at hl 1 rfl) ?_
      refine lv_lload_n hx hb dX2_become_34 rfl (lv_at hl 3 rfl) ?_
      refine lv_lload hx hb dX2_become_35 (lv_at hl 0 rfl) ?_
      refine lv_ldiv hx hb dX2_become_37 (by decide) ?_
      refine z_top (v2 := .long 1) (congrArg Value.long (by decide)) ?_
      refine va_put (D := (dC, dI)) (ci := 2) (v := .long 1) (ty := .long) (C := RX2) (T := TX2) (N := 2) hx hb hts hi2 tyX2 tyX2_ok nmX2 hown hK.1 hP hD hS 0 rfl rfl 1 (by decide) (hts _ wmt1_105) (fun _ h9 => h9) rfl (by decide +kernel) rfl rfl (Nat.le_of_ble_eq_true rfl) dX2_become_38 (fun H locs hP hD hS => ?_)
      have hP : va_P (dC, dI) vwCl (zFra k h0 1 1) H := hP
      have hD : va_D A (zFra k h0 1 1) := hD
      exact W.vret hx hb hr (fun t ht hW => ⟨⟨(), rfl, trivial, ⟨by rw [ht]; exact hP, hD⟩⟩, hS.F ht⟩) hS.2.2 dX2_become_41
  · skip
    exact absurd (by decide) c_5
set_option maxHeartbeats 4000000 in
set_option maxRecDepth 100000 in
theorem c_X2_become (l : Launch) (dC : Nat → ClassId) (dI : Nat → Nat → Nat) (k : Nat → ClassId) (T : List (ClassId × FieldType)) (h0 : Nat) (fa : Int64) (fb : Int64) (a : Nat) (b : Nat) (sz : Nat) (ha : a < 2 ^ 62) (hb2 : b < 2 ^ 62) (hb0 : 0 < b) (hb3 : b ≤ 100) : Met l yX2_become (wz yX2_become cX2_become 7 none) ({ frames := 2, cells := 0, slots := 0, locals := 43 }) (va_Pc [.ref h0, .long (lN a), .long (lN b)] (zPre dC dI k T (zFra k h0 fa fb) sz)) (va_Qv (fun (u : Unit) => True) (fun u t => zPost dC dI (va_A (zFra k h0 fa fb) sz) (zFra k h0 (lN (a / Nat.gcd a b)) (lN (b / Nat.gcd a b))) t) (va_A (zFra k h0 fa fb) sz)) 0 0 (va_A (zFra k h0 fa fb) sz) := by
  refine Met.ofW (cc := cX2_become) (maxL := 7) (ret := none) (by decide) rfl ?_
  intro p e s m args below meth c s₁ B hml hv
  obtain ⟨rfl, hsz, hP, hK, hD0⟩ := hv
  have hx := B.exec
  have hb := B.bytes
  have hr := B.returns
  have hts : ∀ w ∈ zw, w.before _ s = true := fun w h => atoms_spec (ws := (wz yX2_become cX2_become 7 none)) B.pre w (List.mem_cons_of_mem _ h)
  have hown : s.vm.findClass RX2 = some m.cls := findClass_of_methodNamed B.named
  have hlocks := B.notSynchronized
  subst hsz
  have hi2 := inw2
  have hD := hD0.self (sz := s.heap.size)
  generalize hAe : va_A (zFra k h0 fa fb) s.heap.size = A at hD ⊢
  have hA : ∀ q : Nat, s.heap.size ≤ q → A q := fun q h => by rw [← hAe]; exact Or.inr h
  have hl := lv_entry ([.ref h0, .long (lN a), .long (lN b)]) (n := 7) (Nat.le_of_ble_eq_true rfl)
  rw [lg_entry_eq]
  generalize (lg_sl ([.ref h0, .long (lN a), .long (lN b)]) ++ List.replicate (7 - (lg_sl ([.ref h0, .long (lN a), .long (lN b)])).length) Slot.unset).toArray = ls at hl ⊢
  have hl : lv_has ls 7 [(0, .ref h0), (1, .long (lN a)), (3, .long (lN b))] := hl
  refine z_start (w := (zFra k h0 fa fb)) hP hD (fun H locs hP hD hS => ?_)
  refine lv_lload_n hx hb dX2_become_0 rfl (lv_at hl 1 rfl) ?_
  refine lv_lload_n hx hb dX2_become_1 rfl (lv_at hl 2 rfl) ?_
  refine zc0_l (w := (zFra k h0 fa fb)) (va_runSN (As := [.long (lN a), .long (lN b)]) (rest := []) ⟨hx, hb, hml, hown, hts⟩ (c_X6_commonDivisor l dC dI k T a b _ ha hb2 hb3) ⟨va_cnB 2 hts (wz_good wmt2_10) rfl rfl rfl hK.2.2.2.2.2.2.2.2 (hts _ wmt1_1) (by decide +kernel) ⟨Nat.le_of_ble_eq_true rfl, Nat.le_of_ble_eq_true rfl⟩, (hts _ wmt2_9), trivial⟩ (zp0_S hK) rfl rfl hl.1 rfl (lv_room (Nat.le_of_ble_eq_true rfl)) dX2_become_2 ⟨Nat.le_of_ble_eq_true rfl, Nat.le_of_ble_eq_true rfl⟩) hP hS hA (fun r_1 u_2 H locs w_3 hP hS => ?_)
  have e_4 := w_3
  replace e_4 : r_1 = lN (Nat.gcd a b) := e_4
  subst e_4
  refine lv_lstore (lv' := [(5, .long (lN (Nat.gcd a b))), (0, .ref h0), (1, .long (lN a)), (3, .long (lN b))]) hx hb dX2_become_5 hl (by decide) rfl (fun ls hl => ?_)
  have hgp : 0 < Nat.gcd a b := Nat.gcd_pos_of_pos_right a hb0
  have hgb : Nat.gcd a b < 2 ^ 62 := Nat.lt_of_le_of_lt (Nat.le_of_dvd hb0 (Nat.gcd_dvd_right a b)) hb2
  refine lv_lload_n hx hb dX2_become_7 rfl (lv_at hl 3 rfl) ?_
  refine lv_lconst (v := 0) hx hb dX2_become_8 (by decide) ?_
  refine z_lcmp hx hb dX2_become_9 ?_
  refine lv_if_ge (tgt := 18) hx hb dX2_become_10 (by decide) (fun c_5 => ?_) (fun c_5 => ?_)
  · skip
    replace c_5 := (lg_cmp_ge (lN b) 0).mp c_5
    refine lv_lload hx hb dX2_become_18 (lv_at hl 0 rfl) ?_
    refine lv_lconst (v := 0) hx hb dX2_become_20 (by decide) ?_
    refine z_lcmp hx hb dX2_become_21 ?_
    refine lv_if_eq (tgt := 41) hx hb dX2_become_22 (by decide) (fun c_6 => ?_) (fun c_6 => ?_)
    · skip
      exact absurd c_6 (fun q => absurd ((z_lz hgb).mp ((lg_cmp_eq _ _).mp q)) (by omega))
    · skip
      replace c_6 := fun h => c_6 ((lg_cmp_eq (lN (Nat.gcd a b)) 0).mpr h)
      refine lv_aload_n hx hb dX2_become_25 rfl (lv_at hl 1 rfl) ?_
      refine lv_lload_n hx hb dX2_become_26 rfl (lv_at hl 2 rfl) ?_
      refine lv_lload hx hb dX2_become_27 (lv_at hl 0 rfl) ?_
      refine lv_ldiv hx hb dX2_become_29 (fun q => absurd ((z_lz hgb).mp q) (by omega)) ?_
      refine z_top (v2 := .long (lN (a / Nat.gcd a b))) (congrArg Value.long (z_ld (by assumption) hgb hgp)) ?_
      refine va_put (D := (dC, dI)) (ci := 2) (v := .long (lN (a / Nat.gcd a b))) (ty := .long) (C := RX2) (T := TX2) (N := 2) hx hb hts hi2 tyX2 tyX2_ok nmX2 hown hK.1 hP hD hS 0 rfl rfl 0 (by decide) (hts _ wmt1_103) (fun _ h9 => h9) rfl (by decide +kernel) rfl rfl (Nat.le_of_ble_eq_true rfl) dX2_become_30 (fun H locs hP hD hS => ?_)
      have hP : va_P (dC, dI) vwCl (zFra k h0 (lN (a / Nat.gcd a b)) fb) H := hP
      have hD : va_D A (zFra k h0 (lN (a / Nat.gcd a b)) fb) := hD
      refine lv_aload_n hx hb dX2_become_33 rfl (lv_at hl 1 rfl) ?_
      refine lv_lload_n hx hb dX2_become_34 rfl (lv_at hl 3 rfl) ?_
      refine lv_lload hx hb dX2_become_35 (lv_at hl 0 rfl) ?_
      refine lv_ldiv hx hb dX2_become_37 (fun q => absurd ((z_lz hgb).mp q) (by omega)) ?_
      refine z_top (v2 := .long (lN (b / Nat.gcd a b))) (congrArg Value.long (z_ld (by assumption) hgb hgp)) ?_
      refine va_put (D := (dC, dI)) (ci := 2) (v := .long (lN (b / Nat.gcd a b))) (ty := .long) (C := RX2) (T := TX2) (N := 2) hx hb hts hi2 tyX2 tyX2_ok nmX2 hown hK.1 hP hD hS 0 rfl rfl 1 (by decide) (hts _ wmt1_105) (fun _ h9 => h9) rfl (by decide +kernel) rfl rfl (Nat.le_of_ble_eq_true rfl) dX2_become_38 (fun H locs hP hD hS => ?_)
      have hP : va_P (dC, dI) vwCl (zFra k h0 (lN (a / Nat.gcd a b)) (lN (b / Nat.gcd a b))) H := hP
      have hD : va_D A (zFra k h0 (lN (a / Nat.gcd a b)) (lN (b / Nat.gcd a b))) := hD
      exact W.vret hx hb hr (fun t ht hW => ⟨⟨(), rfl, trivial, ⟨by rw [ht]; exact hP, hD⟩⟩, hS.F ht⟩) hS.2.2 dX2_become_41
  · skip
    exact absurd ((lg_cmp_ge _ _).mpr (z_l0 hb2)) c_5
set_option maxHeartbeats 4000000 in
set_option maxRecDepth 100000 in
theorem c_X7_is (l : Launch) (dC : Nat → ClassId) (dI : Nat → Nat → Nat) (k : Nat → ClassId) (T : List (ClassId × FieldType)) (q : Nat → Nat) (j0 : Int64) (j1 : Int64) (r4 : Nat → Int32) (r6 : Nat → Int32) (i12 : Int32) (i13 : Int32) (i14 : Int32) (i15 : Int32) (i28 : Int32) (i29 : Int32) (j30 : Int64) (j31 : Int64) (j32 : Int64) (i33 : Int32) (r34 : Nat → Int32) (r40 : Nat → Int32) (i41 : Int32) (a : Nat) (b : Nat) (sz : Nat) (ha : a < 2 ^ 62) (hb2 : b < 2 ^ 62) (hb0 : 0 < b) : Met l yX7_is (wz yX7_is cX7_is 7 none) ({ frames := 1, cells := 0, slots := 0, locals := 29 }) (va_Pc [.ref (q 0), .long (lN a), .long (lN b)] (zPre dC dI k T (zM k q j0 j1 (fun _ => 0) (fun _ => 0) r4 (fun _ => 0) r6 (fun _ => 0) (fun _ => 0) (fun _ => 0) (fun _ => 0) 12 i12 i13 i14 i15 (fun _ => 0) (fun _ => 0) (fun _ => 0) 0 (-1) (fun _ => 0) 0 (fun _ => 0) (fun _ => 0) (fun _ => 0) (fun _ => 0) (fun _ => 0) i28 i29 j30 j31 j32 i33 r34 100 (fun _ => 0) (fun _ => 0) (fun _ => 0) (fun _ => 0) r40 i41) sz)) (va_Qv (fun (u : Unit) => True) (fun u t => zPost dC dI (va_A (zM k q j0 j1 (fun _ => 0) (fun _ => 0) r4 (fun _ => 0) r6 (fun _ => 0) (fun _ => 0) (fun _ => 0) (fun _ => 0) 12 i12 i13 i14 i15 (fun _ => 0) (fun _ => 0) (fun _ => 0) 0 (-1) (fun _ => 0) 0 (fun _ => 0) (fun _ => 0) (fun _ => 0) (fun _ => 0) (fun _ => 0) i28 i29 j30 j31 j32 i33 r34 100 (fun _ => 0) (fun _ => 0) (fun _ => 0) (fun _ => 0) r40 i41) sz) (zM k q (lN (a / Nat.gcd a b)) (lN (b / Nat.gcd a b)) (fun _ => 0) (fun _ => 0) r4 (fun _ => 0) r6 (fun _ => 0) (fun _ => 0) (fun _ => 0) (fun _ => 0) 12 i12 i13 i14 i15 (fun _ => 0) (fun _ => 0) (fun _ => 0) 0 (-1) (fun _ => 0) 0 (fun _ => 0) (fun _ => 0) (fun _ => 0) (fun _ => 0) (fun _ => 0) i28 i29 j30 j31 j32 i33 r34 100 (fun _ => 0) (fun _ => 0) (fun _ => 0) (fun _ => 0) r40 i41) t) (va_A (zM k q j0 j1 (fun _ => 0) (fun _ => 0) r4 (fun _ => 0) r6 (fun _ => 0) (fun _ => 0) (fun _ => 0) (fun _ => 0) 12 i12 i13 i14 i15 (fun _ => 0) (fun _ => 0) (fun _ => 0) 0 (-1) (fun _ => 0) 0 (fun _ => 0) (fun _ => 0) (fun _ => 0) (fun _ => 0) (fun _ => 0) i28 i29 j30 j31 j32 i33 r34 100 (fun _ => 0) (fun _ => 0) (fun _ => 0) (fun _ => 0) r40 i41) sz)) 0 0 (va_A (zM k q j0 j1 (fun _ => 0) (fun _ => 0) r4 (fun _ => 0) r6 (fun _ => 0) (fun _ => 0) (fun _ => 0) (fun _ => 0) 12 i12 i13 i14 i15 (fun _ => 0) (fun _ => 0) (fun _ => 0) 0 (-1) (fun _ => 0) 0 (fun _ => 0) (fun _ => 0) (fun _ => 0) (fun _ => 0) (fun _ => 0) i28 i29 j30 j31 j32 i33 r34 100 (fun _ => 0) (fun _ => 0) (fun _ => 0) (fun _ => 0) r40 i41) sz) := by
  refine Met.ofW (cc := cX7_is) (maxL := 7) (ret := none) (by decide) rfl ?_
  intro p e s m args below meth c s₁ B hml hv
  obtain ⟨rfl, hsz, hP, hK, hD0⟩ := hv
  have hx := B.exec
  have hb := B.bytes
  have hr := B.returns
  have hts : ∀ w ∈ zw, w.before _ s = true := fun w h => atoms_spec (ws := (wz yX7_is cX7_is 7 none)) B.pre w (List.mem_cons_of_mem _ h)
  have hown : s.vm.findClass RX7 = some m.cls := findClass_of_methodNamed B.named
  have hlocks := B.notSynchronized
  subst hsz
  have hi7 := inw7
  have hD := hD0.self (sz := s.heap.size)
  generalize hAe : va_A (zM k q j0 j1 (fun _ => 0) (fun _ => 0) r4 (fun _ => 0) r6 (fun _ => 0) (fun _ => 0) (fun _ => 0) (fun _ => 0) 12 i12 i13 i14 i15 (fun _ => 0) (fun _ => 0) (fun _ => 0) 0 (-1) (fun _ => 0) 0 (fun _ => 0) (fun _ => 0) (fun _ => 0) (fun _ => 0) (fun _ => 0) i28 i29 j30 j31 j32 i33 r34 100 (fun _ => 0) (fun _ => 0) (fun _ => 0) (fun _ => 0) r40 i41) s.heap.size = A at hD ⊢
  have hA : ∀ q : Nat, s.heap.size ≤ q → A q := fun q h => by rw [← hAe]; exact Or.inr h
  have hl := lv_entry ([.ref (q 0), .long (lN a), .long (lN b)]) (n := 7) (Nat.le_of_ble_eq_true rfl)
  rw [lg_entry_eq]
  generalize (lg_sl ([.ref (q 0), .long (lN a), .long (lN b)]) ++ List.replicate (7 - (lg_sl ([.ref (q 0), .long (lN a), .long (lN b)])).length) Slot.unset).toArray = ls at hl ⊢
  have hl : lv_has ls 7 [(0, .ref (q 0)), (1, .long (lN a)), (3, .long (lN b))] := hl
  refine z_start (w := (zM k q j0 j1 (fun _ => 0) (fun _ => 0) r4 (fun _ => 0) r6 (fun _ => 0) (fun _ => 0) (fun _ => 0) (fun _ => 0) 12 i12 i13 i14 i15 (fun _ => 0) (fun _ => 0) (fun _ => 0) 0 (-1) (fun _ => 0) 0 (fun _ => 0) (fun _ => 0) (fun _ => 0) (fun _ => 0) (fun _ => 0) i28 i29 j30 j31 j32 i33 r34 100 (fun _ => 0) (fun _ => 0) (fun _ => 0) (fun _ => 0) r40 i41)) hP hD (fun H locs hP hD hS => ?_)
  refine lv_lload_n hx hb dX7_is_0 rfl (lv_at hl 1 rfl) ?_
  refine lv_lload_n hx hb dX7_is_1 rfl (lv_at hl 2 rfl) ?_
  refine zc0_l (w := (zM k q j0 j1 (fun _ => 0) (fun _ => 0) r4 (fun _ => 0) r6 (fun _ => 0) (fun _ => 0) (fun _ => 0) (fun _ => 0) 12 i12 i13 i14 i15 (fun _ => 0) (fun _ => 0) (fun _ => 0) 0 (-1) (fun _ => 0) 0 (fun _ => 0) (fun _ => 0) (fun _ => 0) (fun _ => 0) (fun _ => 0) i28 i29 j30 j31 j32 i33 r34 100 (fun _ => 0) (fun _ => 0) (fun _ => 0) (fun _ => 0) r40 i41)) (va_runS (As := [.long (lN a), .long (lN b)]) (rest := []) ⟨hx, hb, hml, hown, hts⟩ (c_X7_divisor l dC dI k T a b _ ha hb2) (va_cwS 2 hts (gzS wmt4_97 wmt4_98 wmt1_8 wmt4_99) rfl rfl rfl (by decide +kernel) ⟨Nat.le_of_ble_eq_true rfl, Nat.le_of_ble_eq_true rfl⟩) (zp0_S hK) rfl rfl hl.1 rfl (lv_room (Nat.le_of_ble_eq_true rfl)) dX7_is_2 ⟨Nat.le_of_ble_eq_true rfl, Nat.le_of_ble_eq_true rfl⟩) hP hS hA (fun r_1 u_2 H locs w_3 hP hS => ?_)
  have e_4 := w_3
  replace e_4 : r_1 = lN (Nat.gcd a b) := e_4
  subst e_4
  refine lv_lstore (lv' := [(5, .long (lN (Nat.gcd a b))), (0, .ref (q 0)), (1, .long (lN a)), (3, .long (lN b))]) hx hb dX7_is_5 hl (by decide) rfl (fun ls hl => ?_)
  have hgp : 0 < Nat.gcd a b := Nat.gcd_pos_of_pos_right a hb0
  have hgb : Nat.gcd a b < 2 ^ 62 := Nat.lt_of_le_of_lt (Nat.le_of_dvd hb0 (Nat.gcd_dvd_right a b)) hb2
  refine lv_lload_n hx hb dX7_is_7 rfl (lv_at hl 3 rfl) ?_
  refine lv_lconst (v := 0) hx hb dX7_is_8 (by decide) ?_
  refine z_lcmp hx hb dX7_is_9 ?_
  refine lv_if_ge (tgt := 19) hx hb dX7_is_10 (by decide) (fun c_5 => ?_) (fun c_5 => ?_)
  · skip
    replace c_5 := (lg_cmp_ge (lN b) 0).mp c_5
    refine lv_lload hx hb dX7_is_19 (lv_at hl 0 rfl) ?_
    refine lv_lstore (lv' := [(5, .long (lN (Nat.gcd a b))), (0, .ref (q 0)), (1, .long (lN a)), (3, .long (lN b))]) hx hb dX7_is_21 hl (by decide) rfl (fun ls hl => ?_)
    refine lv_aload_n hx hb dX7_is_23 rfl (lv_at hl 1 rfl) ?_
    refine lv_lload_n hx hb dX7_is_24 rfl (lv_at hl 2 rfl) ?_
    refine lv_lload hx hb dX7_is_25 (lv_at hl 0 rfl) ?_
    refine lv_ldiv hx hb dX7_is_27 (fun q => absurd ((z_lz hgb).mp q) (by omega)) ?_
    refine z_top (v2 := .long (lN (a / Nat.gcd a b))) (congrArg Value.long (z_ld (by assumption) hgb hgp)) ?_
    refine va_put (D := (dC, dI)) (ci := 7) (v := .long (lN (a / Nat.gcd a b))) (ty := .long) (C := RX7) (T := TX7) (N := 42) hx hb hts hi7 tyX7 tyX7_ok nmX7 hown hK.1 hP hD hS 0 rfl rfl 0 (by decide) (hts _ wmt3_167) (fun _ h9 => h9) rfl (by decide +kernel) rfl rfl (Nat.le_of_ble_eq_true rfl) dX7_is_28 (fun H locs hP hD hS => ?_)
    have hP : va_P (dC, dI) vwCl (zM k q (lN (a / Nat.gcd a b)) j1 (fun _ => 0) (fun _ => 0) r4 (fun _ => 0) r6 (fun _ => 0) (fun _ => 0) (fun _ => 0) (fun _ => 0) 12 i12 i13 i14 i15 (fun _ => 0) (fun _ => 0) (fun _ => 0) 0 (-1) (fun _ => 0) 0 (fun _ => 0) (fun _ => 0) (fun _ => 0) (fun _ => 0) (fun _ => 0) i28 i29 j30 j31 j32 i33 r34 100 (fun _ => 0) (fun _ => 0) (fun _ => 0) (fun _ => 0) r40 i41) H := hP
    have hD : va_D A (zM k q (lN (a / Nat.gcd a b)) j1 (fun _ => 0) (fun _ => 0) r4 (fun _ => 0) r6 (fun _ => 0) (fun _ => 0) (fun _ => 0) (fun _ => 0) 12 i12 i13 i14 i15 (fun _ => 0) (fun _ => 0) (fun _ => 0) 0 (-1) (fun _ => 0) 0 (fun _ => 0) (fun _ => 0) (fun _ => 0) (fun _ => 0) (fun _ => 0) i28 i29 j30 j31 j32 i33 r34 100 (fun _ => 0) (fun _ => 0) (fun _ => 0) (fun _ => 0) r40 i41) := hD
    refine lv_aload_n hx hb dX7_is_31 rfl (lv_at hl 1 rfl) ?_
    refine lv_lload_n hx hb dX7_is_32 rfl (lv_at hl 3 rfl) ?_
    refine lv_lload hx hb dX7_is_33 (lv_at hl 0 rfl) ?_
    refine lv_ldiv hx hb dX7_is_35 (fun q => absurd ((z_lz hgb).mp q) (by omega)) ?_
    refine z_top (v2 := .long (lN (b / Nat.gcd a b))) (congrArg Value.long (z_ld (by assumption) hgb hgp)) ?_
    refine va_put (D := (dC, dI)) (ci := 7) (v := .long (lN (b / Nat.gcd a b))) (ty := .long) (C := RX7) (T := TX7) (N := 42) hx hb hts hi7 tyX7 tyX7_ok nmX7 hown hK.1 hP hD hS 0 rfl rfl 1 (by decide) (hts _ wmt3_168) (fun _ h9 => h9) rfl (by decide +kernel) rfl rfl (Nat.le_of_ble_eq_true rfl) dX7_is_36 (fun H locs hP hD hS => ?_)
    have hP : va_P (dC, dI) vwCl (zM k q (lN (a / Nat.gcd a b)) (lN (b / Nat.gcd a b)) (fun _ => 0) (fun _ => 0) r4 (fun _ => 0) r6 (fun _ => 0) (fun _ => 0) (fun _ => 0) (fun _ => 0) 12 i12 i13 i14 i15 (fun _ => 0) (fun _ => 0) (fun _ => 0) 0 (-1) (fun _ => 0) 0 (fun _ => 0) (fun _ => 0) (fun _ => 0) (fun _ => 0) (fun _ => 0) i28 i29 j30 j31 j32 i33 r34 100 (fun _ => 0) (fun _ => 0) (fun _ => 0) (fun _ => 0) r40 i41) H := hP
    have hD : va_D A (zM k q (lN (a / Nat.gcd a b)) (lN (b / Nat.gcd a b)) (fun _ => 0) (fun _ => 0) r4 (fun _ => 0) r6 (fun _ => 0) (fun _ => 0) (fun _ => 0) (fun _ => 0) 12 i12 i13 i14 i15 (fun _ => 0) (fun _ => 0) (fun _ => 0) 0 (-1) (fun _ => 0) 0 (fun _ => 0) (fun _ => 0) (fun _ => 0) (fun _ => 0) (fun _ => 0) i28 i29 j30 j31 j32 i33 r34 100 (fun _ => 0) (fun _ => 0) (fun _ => 0) (fun _ => 0) r40 i41) := hD
    exact W.vret hx hb hr (fun t ht hW => ⟨⟨(), rfl, trivial, ⟨by rw [ht]; exact hP, hD⟩⟩, hS.F ht⟩) hS.2.2 dX7_is_39
  · skip
    exact absurd ((lg_cmp_ge _ _).mpr (z_l0 hb2)) c_5
