set_option maxHeartbeats 4000000 in
set_option maxRecDepth 100000 in
theorem c_X2_told (l : Launch) (dC : Nat → ClassId) (dI : Nat → Nat → Nat) (k : Nat → ClassId) (T : List (ClassId × FieldType)) (h0 : Nat) (fa : Int64) (fb : Int64) (w : Int32) (sz : Nat)  : Met l yX2_told (wz yX2_told cX2_told 2 (some .long)) ({ frames := 0, cells := 0, slots := 0, locals := 0 }) (va_Pc [.ref h0, .int w] (zPre dC dI k T (zFra k h0 fa fb) sz)) (va_Ql (fun (r : Int64) (u : Unit) => (r = if w = 0 then fa else fb)) (fun u t => zPost dC dI (va_A (zFra k h0 fa fb) sz) (zFra k h0 fa fb) t) (va_A (zFra k h0 fa fb) sz)) 0 0 (va_A (zFra k h0 fa fb) sz) := by
  refine Met.ofW (cc := cX2_told) (maxL := 2) (ret := (some .long)) (by decide) rfl ?_
  intro p e s m args below meth c s₁ B hml hv
  obtain ⟨rfl, hsz, hP, hK, hD0⟩ := hv
  have hx := B.exec
  have hb := B.bytes
  have hr := B.returns
  have hts : ∀ w ∈ zw, w.before _ s = true := fun w h => atoms_spec (ws := (wz yX2_told cX2_told 2 (some .long))) B.pre w (List.mem_cons_of_mem _ h)
  have hown : s.vm.findClass RX2 = some m.cls := findClass_of_methodNamed B.named
  have hlocks := B.notSynchronized
  subst hsz
  have hi2 := inw2
  have hD := hD0.self (sz := s.heap.size)
  generalize hAe : va_A (zFra k h0 fa fb) s.heap.size = A at hD ⊢
  have hA : ∀ q : Nat, s.heap.size ≤ q → A q := fun q h => by rw [← hAe]; exact Or.inr h
  have hl := lv_entry ([.ref h0, .int w]) (n := 2) (Nat.le_of_ble_eq_true rfl)
  rw [lg_entry_eq]
  generalize (lg_sl ([.ref h0, .int w]) ++ List.replicate (2 - (lg_sl ([.ref h0, .int w])).length) Slot.unset).toArray = ls at hl ⊢
  have hl : lv_has ls 2 [(0, .ref h0), (1, .int w)] := hl
  refine z_start (w := (zFra k h0 fa fb)) hP hD (fun H locs hP hD hS => ?_)
  refine lv_iload_n hx hb dX2_told_0 rfl (lv_at hl 1 rfl) ?_
  refine lv_if_ne (tgt := 11) hx hb dX2_told_1 (by decide) (fun c_1 => ?_) (fun c_1 => ?_)
  · skip
    refine lv_aload_n hx hb dX2_told_11 rfl (lv_at hl 0 rfl) ?_
    refine va_get (D := (dC, dI)) (ci := 2) (v := .long fb) (C := RX2) (T := TX2) (N := 2) hx hb hts hi2 hown hK.1 hP 0 rfl rfl 1 (by decide) (hts _ wmt1_105) (fun _ h9 => h9) rfl dX2_told_12 ?_
    exact W.lret (v := fb) hx hb hr (fun t ht hW => ⟨⟨fb, (), rfl, (by first | assumption | with_reducible rfl | contradiction | exact (if_pos (by repeat' (first | assumption | decide | constructor))).symm | exact (if_neg (fun hh => absurd hh (by assumption))).symm | exact (if_neg (fun hh => absurd hh.1 (by assumption))).symm | exact (if_neg (fun hh => absurd hh.2 (by assumption))).symm | exact (if_neg (fun hh => absurd hh.1.1 (by assumption))).symm | exact (if_neg (fun hh => absurd hh.1.2 (by assumption))).symm | exact (if_neg (fun hh => absurd hh.2.1 (by assumption))).symm | exact (if_neg (fun hh => absurd hh.2.2 (by assumption))).symm | exact (if_neg (fun hh => absurd hh.2.2.1 (by assumption))).symm | exact (if_neg (fun hh => absurd hh.2.2.2 (by assumption))).symm | exact (if_neg (fun hh => absurd hh.2.2.2.1 (by assumption))).symm | exact (if_neg (fun hh => absurd hh.2.2.2.2 (by assumption))).symm | decide | (exfalso; simp only [zi_le, zi_lt, zi_eq, zi_n0, zi_n1, zi_n2, zi_n3, zi_n4, zi_n23, zi_n24, zi_n100, zi_n399, zi_n60, zi_n255, zi_n99, zi_nm1, zi_n30] at *; omega) | (simp_all; done)), ⟨by rw [ht]; exact hP, hD⟩⟩, hS.F ht⟩) hS.2.2 dX2_told_15
  · skip
    refine lv_aload_n hx hb dX2_told_4 rfl (lv_at hl 0 rfl) ?_
    refine va_get (D := (dC, dI)) (ci := 2) (v := .long fa) (C := RX2) (T := TX2) (N := 2) hx hb hts hi2 hown hK.1 hP 0 rfl rfl 0 (by decide) (hts _ wmt1_103) (fun _ h9 => h9) rfl dX2_told_5 ?_
    refine lv_goto (tgt := 15) hx hb dX2_told_8 (by decide) ?_
    exact W.lret (v := fa) hx hb hr (fun t ht hW => ⟨⟨fa, (), rfl, (by first | assumption | with_reducible rfl | contradiction | exact (if_pos (by repeat' (first | assumption | decide | constructor))).symm | exact (if_neg (fun hh => absurd hh (by assumption))).symm | exact (if_neg (fun hh => absurd hh.1 (by assumption))).symm | exact (if_neg (fun hh => absurd hh.2 (by assumption))).symm | exact (if_neg (fun hh => absurd hh.1.1 (by assumption))).symm | exact (if_neg (fun hh => absurd hh.1.2 (by assumption))).symm | exact (if_neg (fun hh => absurd hh.2.1 (by assumption))).symm | exact (if_neg (fun hh => absurd hh.2.2 (by assumption))).symm | exact (if_neg (fun hh => absurd hh.2.2.1 (by assumption))).symm | exact (if_neg (fun hh => absurd hh.2.2.2 (by assumption))).symm | exact (if_neg (fun hh => absurd hh.2.2.2.1 (by assumption))).symm | exact (if_neg (fun hh => absurd hh.2.2.2.2 (by assumption))).symm | decide | (exfalso; simp only [zi_le, zi_lt, zi_eq, zi_n0, zi_n1, zi_n2, zi_n3, zi_n4, zi_n23, zi_n24, zi_n100, zi_n399, zi_n60, zi_n255, zi_n99, zi_nm1, zi_n30] at *; omega) | (simp_all; done)), ⟨by rw [ht]; exact hP, hD⟩⟩, hS.F ht⟩) hS.2.2 dX2_told_15
set_option maxHeartbeats 4000000 in
set_option maxRecDepth 100000 in
theorem c_X4_begin (l : Launch) (dC : Nat → ClassId) (dI : Nat → Nat → Nat) (k : Nat → ClassId) (T : List (ClassId × FieldType)) (h0 : Nat) (ph : Int32) (pp : Int32) (py : Int32) (sz : Nat)  : Met l yX4_begin (wz yX4_begin cX4_begin 1 none) ({ frames := 0, cells := 0, slots := 0, locals := 0 }) (va_Pc [.ref h0] (zPre dC dI k T (zPol k h0 ph pp py) sz)) (va_Qv (fun (u : Unit) => True) (fun u t => zPost dC dI (va_A (zPol k h0 ph pp py) sz) (zPol k h0 0 0 0) t) (va_A (zPol k h0 ph pp py) sz)) 0 0 (va_A (zPol k h0 ph pp py) sz) := by
  refine Met.ofW (cc := cX4_begin) (maxL := 1) (ret := none) (by decide) rfl ?_
  intro p e s m args below meth c s₁ B hml hv
  obtain ⟨rfl, hsz, hP, hK, hD0⟩ := hv
  have hx := B.exec
  have hb := B.bytes
  have hr := B.returns
  have hts : ∀ w ∈ zw, w.before _ s = true := fun w h => atoms_spec (ws := (wz yX4_begin cX4_begin 1 none)) B.pre w (List.mem_cons_of_mem _ h)
  have hown : s.vm.findClass RX4 = some m.cls := findClass_of_methodNamed B.named
  have hlocks := B.notSynchronized
  subst hsz
  have hi4 := inw4
  have hD := hD0.self (sz := s.heap.size)
  generalize hAe : va_A (zPol k h0 ph pp py) s.heap.size = A at hD ⊢
  have hA : ∀ q : Nat, s.heap.size ≤ q → A q := fun q h => by rw [← hAe]; exact Or.inr h
  have hl := lv_entry ([.ref h0]) (n := 1) (Nat.le_of_ble_eq_true rfl)
  rw [lg_entry_eq]
  generalize (lg_sl ([.ref h0]) ++ List.replicate (1 - (lg_sl ([.ref h0])).length) Slot.unset).toArray = ls at hl ⊢
  have hl : lv_has ls 1 [(0, .ref h0)] := hl
  refine z_start (w := (zPol k h0 ph pp py)) hP hD (fun H locs hP hD hS => ?_)
  refine lv_aload_n hx hb dX4_begin_0 rfl (lv_at hl 0 rfl) ?_
  refine lv_iconst (v := 0) hx hb dX4_begin_1 (by decide) ?_
  refine va_put (D := (dC, dI)) (ci := 4) (v := .int 0) (ty := .int) (C := RX4) (T := TX4) (N := 3) hx hb hts hi4 tyX4 tyX4_ok nmX4 hown hK.1 hP hD hS 0 rfl rfl 0 (by decide) (hts _ wmt1_74) (fun _ h9 => h9) rfl (by decide +kernel) rfl rfl (Nat.le_of_ble_eq_true rfl) dX4_begin_2 (fun H locs hP hD hS => ?_)
  have hP : va_P (dC, dI) vwCl (zPol k h0 0 pp py) H := hP
  have hD : va_D A (zPol k h0 0 pp py) := hD
  refine lv_aload_n hx hb dX4_begin_5 rfl (lv_at hl 0 rfl) ?_
  refine lv_iconst (v := 0) hx hb dX4_begin_6 (by decide) ?_
  refine va_put (D := (dC, dI)) (ci := 4) (v := .int 0) (ty := .int) (C := RX4) (T := TX4) (N := 3) hx hb hts hi4 tyX4 tyX4_ok nmX4 hown hK.1 hP hD hS 0 rfl rfl 1 (by decide) (hts _ wmt1_75) (fun _ h9 => h9) rfl (by decide +kernel) rfl rfl (Nat.le_of_ble_eq_true rfl) dX4_begin_7 (fun H locs hP hD hS => ?_)
  have hP : va_P (dC, dI) vwCl (zPol k h0 0 0 py) H := hP
  have hD : va_D A (zPol k h0 0 0 py) := hD
  refine lv_aload_n hx hb dX4_begin_10 rfl (lv_at hl 0 rfl) ?_
  refine lv_iconst (v := 0) hx hb dX4_begin_11 (by decide) ?_
  refine va_put (D := (dC, dI)) (ci := 4) (v := .int 0) (ty := .int) (C := RX4) (T := TX4) (N := 3) hx hb hts hi4 tyX4 tyX4_ok nmX4 hown hK.1 hP hD hS 0 rfl rfl 2 (by decide) (hts _ wmt1_77) (fun _ h9 => h9) rfl (by decide +kernel) rfl rfl (Nat.le_of_ble_eq_true rfl) dX4_begin_12 (fun H locs hP hD hS => ?_)
  have hP : va_P (dC, dI) vwCl (zPol k h0 0 0 0) H := hP
  have hD : va_D A (zPol k h0 0 0 0) := hD
  exact W.vret hx hb hr (fun t ht hW => ⟨⟨(), rfl, trivial, ⟨by rw [ht]; exact hP, hD⟩⟩, hS.F ht⟩) hS.2.2 dX4_begin_15
set_option maxHeartbeats 4000000 in
set_option maxRecDepth 100000 in
theorem c_X0_isThere (l : Launch) (dC : Nat → ClassId) (dI : Nat → Nat → Nat) (k : Nat → ClassId) (T : List (ClassId × FieldType)) (h0 : Nat) (a1 : Nat) (a2 : Nat) (a3 : Nat) (a4 : Nat) (a5 : Nat) (a6 : Nat) (a7 : Nat) (r1 : Nat → Int32) (r2 : Nat → Int32) (r3 : Nat → Int32) (r4 : Nat → Int32) (r5 : Nat → Int32) (r6 : Nat → Int32) (r7 : Nat → Int32) (ips : Int32) (n : Int32) (sz : Nat)  : Met l yX0_isThere (wz yX0_isThere cX0_isThere 2 (some .boolean)) ({ frames := 0, cells := 0, slots := 0, locals := 0 }) (va_Pc [.ref h0, .int n] (zPre dC dI k T (zAns k h0 a1 a2 a3 a4 a5 a6 a7 r1 r2 r3 r4 r5 r6 r7 ips 0) sz)) (va_Qi (fun (r : Int32) (u : Unit) => r = 0) (fun u t => zPost dC dI (va_A (zAns k h0 a1 a2 a3 a4 a5 a6 a7 r1 r2 r3 r4 r5 r6 r7 ips 0) sz) (zAns k h0 a1 a2 a3 a4 a5 a6 a7 r1 r2 r3 r4 r5 r6 r7 ips 0) t) (va_A (zAns k h0 a1 a2 a3 a4 a5 a6 a7 r1 r2 r3 r4 r5 r6 r7 ips 0) sz)) 0 0 (va_A (zAns k h0 a1 a2 a3 a4 a5 a6 a7 r1 r2 r3 r4 r5 r6 r7 ips 0) sz) := by
  refine Met.ofW (cc := cX0_isThere) (maxL := 2) (ret := (some .boolean)) (by decide) rfl ?_
  intro p e s m args below meth c s₁ B hml hv
  obtain ⟨rfl, hsz, hP, hK, hD0⟩ := hv
  have hx := B.exec
  have hb := B.bytes
  have hr := B.returns
  have hts : ∀ w ∈ zw, w.before _ s = true := fun w h => atoms_spec (ws := (wz yX0_isThere cX0_isThere 2 (some .boolean))) B.pre w (List.mem_cons_of_mem _ h)
  have hown : s.vm.findClass RX0 = some m.cls := findClass_of_methodNamed B.named
  have hlocks := B.notSynchronized
  subst hsz
  have hi0 := inw0
  have hD := hD0.self (sz := s.heap.size)
  generalize hAe : va_A (zAns k h0 a1 a2 a3 a4 a5 a6 a7 r1 r2 r3 r4 r5 r6 r7 ips 0) s.heap.size = A at hD ⊢
  have hA : ∀ q : Nat, s.heap.size ≤ q → A q := fun q h => by rw [← hAe]; exact Or.inr h
  have hl := lv_entry ([.ref h0, .int n]) (n := 2) (Nat.le_of_ble_eq_true rfl)
  rw [lg_entry_eq]
  generalize (lg_sl ([.ref h0, .int n]) ++ List.replicate (2 - (lg_sl ([.ref h0, .int n])).length) Slot.unset).toArray = ls at hl ⊢
  have hl : lv_has ls 2 [(0, .ref h0), (1, .int n)] := hl
  refine z_start (w := (zAns k h0 a1 a2 a3 a4 a5 a6 a7 r1 r2 r3 r4 r5 r6 r7 ips 0)) hP hD (fun H locs hP hD hS => ?_)
  refine lv_iload_n hx hb dX0_isThere_0 rfl (lv_at hl 1 rfl) ?_
  refine lv_if_lt (tgt := 16) hx hb dX0_isThere_1 (by decide) (fun c_1 => ?_) (fun c_1 => ?_)
  · skip
    replace c_1 := Int32.not_le.mpr c_1
    refine lv_iconst (v := 0) hx hb dX0_isThere_16 (by decide) ?_
    exact W.zret (v := 0) (ty := .boolean) hx hb hr rfl (fun t ht hW => ⟨⟨0, (), rfl, (by first | assumption | with_reducible rfl | contradiction | exact (if_pos (by repeat' (first | assumption | decide | constructor))).symm | exact (if_neg (fun hh => absurd hh (by assumption))).symm | exact (if_neg (fun hh => absurd hh.1 (by assumption))).symm | exact (if_neg (fun hh => absurd hh.2 (by assumption))).symm | exact (if_neg (fun hh => absurd hh.1.1 (by assumption))).symm | exact (if_neg (fun hh => absurd hh.1.2 (by assumption))).symm | exact (if_neg (fun hh => absurd hh.2.1 (by assumption))).symm | exact (if_neg (fun hh => absurd hh.2.2 (by assumption))).symm | exact (if_neg (fun hh => absurd hh.2.2.1 (by assumption))).symm | exact (if_neg (fun hh => absurd hh.2.2.2 (by assumption))).symm | exact (if_neg (fun hh => absurd hh.2.2.2.1 (by assumption))).symm | exact (if_neg (fun hh => absurd hh.2.2.2.2 (by assumption))).symm | decide | (exfalso; simp only [zi_le, zi_lt, zi_eq, zi_n0, zi_n1, zi_n2, zi_n3, zi_n4, zi_n23, zi_n24, zi_n100, zi_n399, zi_n60, zi_n255, zi_n99, zi_nm1, zi_n30] at *; omega) | (simp_all; done)), ⟨by rw [ht]; exact hP, hD⟩⟩, hS.F ht⟩) hS.2.2 dX0_isThere_17
  · skip
    replace c_1 := Int32.not_lt.mp c_1
    refine lv_iload_n hx hb dX0_isThere_4 rfl (lv_at hl 1 rfl) ?_
    refine lv_aload_n hx hb dX0_isThere_5 rfl (lv_at hl 0 rfl) ?_
    refine va_get (D := (dC, dI)) (ci := 0) (v := .int 0) (C := RX0) (T := TX0) (N := 9) hx hb hts hi0 hown hK.1 hP 0 rfl rfl 8 (by decide) (hts _ wmt1_46) (fun _ h9 => h9) rfl dX0_isThere_6 ?_
    refine lv_icmp_ge (tgt := 16) hx hb dX0_isThere_9 (by decide) (fun c_2 => ?_) (fun c_2 => ?_)
    · skip
      refine lv_iconst (v := 0) hx hb dX0_isThere_16 (by decide) ?_
      exact W.zret (v := 0) (ty := .boolean) hx hb hr rfl (fun t ht hW => ⟨⟨0, (), rfl, (by first | assumption | with_reducible rfl | contradiction | exact (if_pos (by repeat' (first | assumption | decide | constructor))).symm | exact (if_neg (fun hh => absurd hh (by assumption))).symm | exact (if_neg (fun hh => absurd hh.1 (by assumption))).symm | exact (if_neg (fun hh => absurd hh.2 (by assumption))).symm | exact (if_neg (fun hh => absurd hh.1.1 (by assumption))).symm | exact (if_neg (fun hh => absurd hh.1.2 (by assumption))).symm | exact (if_neg (fun hh => absurd hh.2.1 (by assumption))).symm | exact (if_neg (fun hh => absurd hh.2.2 (by assumption))).symm | exact (if_neg (fun hh => absurd hh.2.2.1 (by assumption))).symm | exact (if_neg (fun hh => absurd hh.2.2.2 (by assumption))).symm | exact (if_neg (fun hh => absurd hh.2.2.2.1 (by assumption))).symm | exact (if_neg (fun hh => absurd hh.2.2.2.2 (by assumption))).symm | decide | (exfalso; simp only [zi_le, zi_lt, zi_eq, zi_n0, zi_n1, zi_n2, zi_n3, zi_n4, zi_n23, zi_n24, zi_n100, zi_n399, zi_n60, zi_n255, zi_n99, zi_nm1, zi_n30] at *; omega) | (simp_all; done)), ⟨by rw [ht]; exact hP, hD⟩⟩, hS.F ht⟩) hS.2.2 dX0_isThere_17
    · skip
      refine lv_iconst (v := 1) hx hb dX0_isThere_12 (by decide) ?_
      refine lv_goto (tgt := 17) hx hb dX0_isThere_13 (by decide) ?_
      exact W.zret (v := 1) (ty := .boolean) hx hb hr rfl (fun t ht hW => ⟨⟨1, (), rfl, (by first | assumption | with_reducible rfl | contradiction | exact (if_pos (by repeat' (first | assumption | decide | constructor))).symm | exact (if_neg (fun hh => absurd hh (by assumption))).symm | exact (if_neg (fun hh => absurd hh.1 (by assumption))).symm | exact (if_neg (fun hh => absurd hh.2 (by assumption))).symm | exact (if_neg (fun hh => absurd hh.1.1 (by assumption))).symm | exact (if_neg (fun hh => absurd hh.1.2 (by assumption))).symm | exact (if_neg (fun hh => absurd hh.2.1 (by assumption))).symm | exact (if_neg (fun hh => absurd hh.2.2 (by assumption))).symm | exact (if_neg (fun hh => absurd hh.2.2.1 (by assumption))).symm | exact (if_neg (fun hh => absurd hh.2.2.2 (by assumption))).symm | exact (if_neg (fun hh => absurd hh.2.2.2.1 (by assumption))).symm | exact (if_neg (fun hh => absurd hh.2.2.2.2 (by assumption))).symm | decide | (exfalso; simp only [zi_le, zi_lt, zi_eq, zi_n0, zi_n1, zi_n2, zi_n3, zi_n4, zi_n23, zi_n24, zi_n100, zi_n399, zi_n60, zi_n255, zi_n99, zi_nm1, zi_n30] at *; omega) | (simp_all; done)), ⟨by rw [ht]; exact hP, hD⟩⟩, hS.F ht⟩) hS.2.2 dX0_isThere_17
set_option maxHeartbeats 4000000 in
set_option maxRecDepth 100000 in
theorem c_X0_knownOnes (l : Launch) (dC : Nat → ClassId) (dI : Nat → Nat → Nat) (k : Nat → ClassId) (T : List (ClassId × FieldType)) (h0 : Nat) (a1 : Nat) (a2 : Nat) (a3 : Nat) (a4 : Nat) (a5 : Nat) (a6 : Nat) (a7 : Nat) (r1 : Nat → Int32) (r2 : Nat → Int32) (r3 : Nat → Int32) (r4 : Nat → Int32) (r5 : Nat → Int32) (r6 : Nat → Int32) (r7 : Nat → Int32) (ips : Int32) (v : Int32) (w : Int32) (sz : Nat)  : Met l yX0_knownOnes (wz yX0_knownOnes cX0_knownOnes 5 (some .int)) ({ frames := 0, cells := 0, slots := 0, locals := 0 }) (va_Pc [.ref h0, .int v, .int w] (zPre dC dI k T (zAns k h0 a1 a2 a3 a4 a5 a6 a7 r1 r2 r3 r4 r5 r6 r7 ips 0) sz)) (va_Qi (fun (r : Int32) (u : Unit) => r = 0) (fun u t => zPost dC dI (va_A (zAns k h0 a1 a2 a3 a4 a5 a6 a7 r1 r2 r3 r4 r5 r6 r7 ips 0) sz) (zAns k h0 a1 a2 a3 a4 a5 a6 a7 r1 r2 r3 r4 r5 r6 r7 ips 0) t) (va_A (zAns k h0 a1 a2 a3 a4 a5 a6 a7 r1 r2 r3 r4 r5 r6 r7 ips 0) sz)) 0 0 (va_A (zAns k h0 a1 a2 a3 a4 a5 a6 a7 r1 r2 r3 r4 r5 r6 r7 ips 0) sz) := by
  refine Met.ofW (cc := cX0_knownOnes) (maxL := 5) (ret := (some .int)) (by decide) rfl ?_
  intro p e s m args below meth c s₁ B hml hv
  obtain ⟨rfl, hsz, hP, hK, hD0⟩ := hv
  have hx := B.exec
  have hb := B.bytes
  have hr := B.returns
  have hts : ∀ w ∈ zw, w.before _ s = true := fun w h => atoms_spec (ws := (wz yX0_knownOnes cX0_knownOnes 5 (some .int))) B.pre w (List.mem_cons_of_mem _ h)
  have hown : s.vm.findClass RX0 = some m.cls := findClass_of_methodNamed B.named
  have hlocks := B.notSynchronized
  subst hsz
  have hi0 := inw0
  have hD := hD0.self (sz := s.heap.size)
  generalize hAe : va_A (zAns k h0 a1 a2 a3 a4 a5 a6 a7 r1 r2 r3 r4 r5 r6 r7 ips 0) s.heap.size = A at hD ⊢
  have hA : ∀ q : Nat, s.heap.size ≤ q → A q := fun q h => by rw [← hAe]; exact Or.inr h
  have hl := lv_entry ([.ref h0, .int v, .int w]) (n := 5) (Nat.le_of_ble_eq_true rfl)
  rw [lg_entry_eq]
  generalize (lg_sl ([.ref h0, .int v, .int w]) ++ List.replicate (5 - (lg_sl ([.ref h0, .int v, .int w])).length) Slot.unset).toArray = ls at hl ⊢
  have hl : lv_has ls 5 [(0, .ref h0), (1, .int v), (2, .int w)] := hl
  refine z_start (w := (zAns k h0 a1 a2 a3 a4 a5 a6 a7 r1 r2 r3 r4 r5 r6 r7 ips 0)) hP hD (fun H locs hP hD hS => ?_)
  refine lv_iconst (v := 0) hx hb dX0_knownOnes_0 (by decide) ?_
  refine lv_istore_n (lv' := [(3, .int 0), (0, .ref h0), (1, .int v), (2, .int w)]) hx hb dX0_knownOnes_1 rfl hl (by decide) rfl (fun ls hl => ?_)
  refine lv_iconst (v := 0) hx hb dX0_knownOnes_2 (by decide) ?_
  refine lv_istore (lv' := [(4, .int 0), (3, .int 0), (0, .ref h0), (1, .int v), (2, .int w)]) hx hb dX0_knownOnes_3 hl (by decide) rfl (fun ls hl => ?_)
  refine lv_iload hx hb dX0_knownOnes_5 (lv_at hl 0 rfl) ?_
  refine lv_aload_n hx hb dX0_knownOnes_7 rfl (lv_at hl 2 rfl) ?_
  refine va_get (D := (dC, dI)) (ci := 0) (v := .int 0) (C := RX0) (T := TX0) (N := 9) hx hb hts hi0 hown hK.1 hP 0 rfl rfl 8 (by decide) (hts _ wmt1_46) (fun _ h9 => h9) rfl dX0_knownOnes_8 ?_
  refine lv_icmp_ge (tgt := 48) hx hb dX0_knownOnes_11 (by decide) (fun c_1 => ?_) (fun c_1 => ?_)
  · skip
    refine lv_iload_n hx hb dX0_knownOnes_48 rfl (lv_at hl 1 rfl) ?_
    exact W.iret (v := 0) hx hb hr (fun t ht hW => ⟨⟨0, (), rfl, (by first | assumption | with_reducible rfl | contradiction | exact (if_pos (by repeat' (first | assumption | decide | constructor))).symm | exact (if_neg (fun hh => absurd hh (by assumption))).symm | exact (if_neg (fun hh => absurd hh.1 (by assumption))).symm | exact (if_neg (fun hh => absurd hh.2 (by assumption))).symm | exact (if_neg (fun hh => absurd hh.1.1 (by assumption))).symm | exact (if_neg (fun hh => absurd hh.1.2 (by assumption))).symm | exact (if_neg (fun hh => absurd hh.2.1 (by assumption))).symm | exact (if_neg (fun hh => absurd hh.2.2 (by assumption))).symm | exact (if_neg (fun hh => absurd hh.2.2.1 (by assumption))).symm | exact (if_neg (fun hh => absurd hh.2.2.2 (by assumption))).symm | exact (if_neg (fun hh => absurd hh.2.2.2.1 (by assumption))).symm | exact (if_neg (fun hh => absurd hh.2.2.2.2 (by assumption))).symm | decide | (exfalso; simp only [zi_le, zi_lt, zi_eq, zi_n0, zi_n1, zi_n2, zi_n3, zi_n4, zi_n23, zi_n24, zi_n100, zi_n399, zi_n60, zi_n255, zi_n99, zi_nm1, zi_n30] at *; omega) | (simp_all; done)), ⟨by rw [ht]; exact hP, hD⟩⟩, hS.F ht⟩) hS.2.2 dX0_knownOnes_49
  · skip
    exact absurd (by decide) c_1
set_option maxHeartbeats 4000000 in
set_option maxRecDepth 100000 in
theorem c_X0_pick (l : Launch) (dC : Nat → ClassId) (dI : Nat → Nat → Nat) (k : Nat → ClassId) (T : List (ClassId × FieldType)) (h0 : Nat) (a1 : Nat) (a2 : Nat) (a3 : Nat) (a4 : Nat) (a5 : Nat) (a6 : Nat) (a7 : Nat) (r1 : Nat → Int32) (r2 : Nat → Int32) (r3 : Nat → Int32) (r4 : Nat → Int32) (r5 : Nat → Int32) (r6 : Nat → Int32) (r7 : Nat → Int32) (ips : Int32) (pe : Int32) (v : Int32) (sz : Nat)  : Met l yX0_pick (wz yX0_pick cX0_pick 5 none) ({ frames := 1, cells := 0, slots := 0, locals := 23 }) (va_Pc [.ref h0, .int pe, .int v] (zPre dC dI k T (zAns k h0 a1 a2 a3 a4 a5 a6 a7 r1 r2 r3 r4 r5 r6 r7 ips 0) sz)) (va_Qv (fun (u : (Nat → Int32)) => True) (fun u t => zPost dC dI (va_A (zAns k h0 a1 a2 a3 a4 a5 a6 a7 r1 r2 r3 r4 r5 r6 r7 ips 0) sz) (zAns k h0 a1 a2 a3 a4 a5 a6 a7 r1 r2 r3 r4 r5 u r7 0 0) t) (va_A (zAns k h0 a1 a2 a3 a4 a5 a6 a7 r1 r2 r3 r4 r5 r6 r7 ips 0) sz)) 0 0 (va_A (zAns k h0 a1 a2 a3 a4 a5 a6 a7 r1 r2 r3 r4 r5 r6 r7 ips 0) sz) := by
  refine Met.ofW (cc := cX0_pick) (maxL := 5) (ret := none) (by decide) rfl ?_
  intro p e s m args below meth c s₁ B hml hv
  obtain ⟨rfl, hsz, hP, hK, hD0⟩ := hv
  have hx := B.exec
  have hb := B.bytes
  have hr := B.returns
  have hts : ∀ w ∈ zw, w.before _ s = true := fun w h => atoms_spec (ws := (wz yX0_pick cX0_pick 5 none)) B.pre w (List.mem_cons_of_mem _ h)
  have hown : s.vm.findClass RX0 = some m.cls := findClass_of_methodNamed B.named
  have hlocks := B.notSynchronized
  subst hsz
  have hi0 := inw0
  have hD := hD0.self (sz := s.heap.size)
  generalize hAe : va_A (zAns k h0 a1 a2 a3 a4 a5 a6 a7 r1 r2 r3 r4 r5 r6 r7 ips 0) s.heap.size = A at hD ⊢
  have hA : ∀ q : Nat, s.heap.size ≤ q → A q := fun q h => by rw [← hAe]; exact Or.inr h
  have hl := lv_entry ([.ref h0, .int pe, .int v]) (n := 5) (Nat.le_of_ble_eq_true rfl)
  rw [lg_entry_eq]
  generalize (lg_sl ([.ref h0, .int pe, .int v]) ++ List.replicate (5 - (lg_sl ([.ref h0, .int pe, .int v])).length) Slot.unset).toArray = ls at hl ⊢
  have hl : lv_has ls 5 [(0, .ref h0), (1, .int pe), (2, .int v)] := hl
  refine z_start (w := (zAns k h0 a1 a2 a3 a4 a5 a6 a7 r1 r2 r3 r4 r5 r6 r7 ips 0)) hP hD (fun H locs hP hD hS => ?_)
  refine lv_aload_n hx hb dX0_pick_0 rfl (lv_at hl 0 rfl) ?_
  refine va_get (D := (dC, dI)) (ci := 0) (v := .ref a6) (C := RX0) (T := TX0) (N := 9) hx hb hts hi0 hown hK.1 hP 0 rfl rfl 5 (by decide) (hts _ wmt1_40) (fun _ h9 => h9) rfl dX0_pick_1 ?_
  refine lv_iconst (v := 0) hx hb dX0_pick_4 (by decide) ?_
  refine zc_v (w := (zAns k h0 a1 a2 a3 a4 a5 a6 a7 r1 r2 r3 r4 r5 r6 r7 ips 0)) (wc := [(a6, .inl (k 0, 4, .inl r6))]) (wr := ([0, 1, 2, 3, 4, 5, 7].filterMap (fun i => (zAns k h0 a1 a2 a3 a4 a5 a6 a7 r1 r2 r3 r4 r5 r6 r7 ips 0)[i]?))) (va_runS (As := [.ref a6, .int 0]) (rest := []) ⟨hx, hb, hml, hown, hts⟩ (c_J7_fill_53178_4 l dC dI k T a6 r6 _ ) (va_cwS 2 hts (gzS wmt3_5 wmt3_6 wmt1_9 wmt3_7) rfl rfl rfl (by decide +kernel) ⟨Nat.le_of_ble_eq_true rfl, Nat.le_of_ble_eq_true rfl⟩) (zp_S hK hP hD [6] rfl rfl) rfl rfl hl.1 rfl (lv_room (Nat.le_of_ble_eq_true rfl)) dX0_pick_5 ⟨Nat.le_of_ble_eq_true rfl, Nat.le_of_ble_eq_true rfl⟩) hP hD hS hA [6] [0, 1, 2, 3, 4, 5, 7] rfl rfl (by decide) (by decide) (fun u_2 H locs w_3 hP hD hS => ?_)
  obtain ⟨of_4, rfl⟩ : ∃ z, z = u_2 := ⟨_, rfl⟩
  have hP : va_P (dC, dI) vwCl (zAns k h0 a1 a2 a3 a4 a5 a6 a7 r1 r2 r3 r4 r5 of_4 r7 ips 0) H := hP.sub [0, 1, 2, 3, 4, 5, 7, 6] rfl
  have hD : va_D A (zAns k h0 a1 a2 a3 a4 a5 a6 a7 r1 r2 r3 r4 r5 of_4 r7 ips 0) := hD.sub [0, 1, 2, 3, 4, 5, 7, 6] (by decide) rfl
  refine lv_aload_n hx hb dX0_pick_8 rfl (lv_at hl 0 rfl) ?_
  refine lv_iconst (v := 0) hx hb dX0_pick_9 (by decide) ?_
  refine va_put (D := (dC, dI)) (ci := 0) (v := .int 0) (ty := .int) (C := RX0) (T := TX0) (N := 9) hx hb hts hi0 tyX0 tyX0_ok nmX0 hown hK.1 hP hD hS 0 rfl rfl 7 (by decide) (hts _ wmt1_44) (fun _ h9 => h9) rfl (by decide +kernel) rfl rfl (Nat.le_of_ble_eq_true rfl) dX0_pick_10 (fun H locs hP hD hS => ?_)
  have hP : va_P (dC, dI) vwCl (zAns k h0 a1 a2 a3 a4 a5 a6 a7 r1 r2 r3 r4 r5 of_4 r7 0 0) H := hP
  have hD : va_D A (zAns k h0 a1 a2 a3 a4 a5 a6 a7 r1 r2 r3 r4 r5 of_4 r7 0 0) := hD
  refine lv_iconst (v := 0) hx hb dX0_pick_13 (by decide) ?_
  refine lv_istore_n (lv' := [(3, .int 0), (0, .ref h0), (1, .int pe), (2, .int v)]) hx hb dX0_pick_14 rfl hl (by decide) rfl (fun ls hl => ?_)
  refine lv_iload_n hx hb dX0_pick_15 rfl (lv_at hl 0 rfl) ?_
  refine lv_aload_n hx hb dX0_pick_16 rfl (lv_at hl 1 rfl) ?_
  refine va_get (D := (dC, dI)) (ci := 0) (v := .int 0) (C := RX0) (T := TX0) (N := 9) hx hb hts hi0 hown hK.1 hP 0 rfl rfl 8 (by decide) (hts _ wmt1_46) (fun _ h9 => h9) rfl dX0_pick_17 ?_
  refine lv_icmp_ge (tgt := 98) hx hb dX0_pick_20 (by decide) (fun c_5 => ?_) (fun c_5 => ?_)
  · skip
    exact W.vret hx hb hr (fun t ht hW => ⟨⟨(of_4), rfl, trivial, ⟨by rw [ht]; exact hP, hD⟩⟩, hS.F ht⟩) hS.2.2 dX0_pick_98
  · skip
    exact absurd (by decide) c_5
set_option maxHeartbeats 4000000 in
set_option maxRecDepth 100000 in
theorem c_X5_isLost (l : Launch) (dC : Nat → ClassId) (dI : Nat → Nat → Nat) (k : Nat → ClassId) (T : List (ClassId × FieldType)) (h0 : Nat) (a1 : Nat) (it : Nat → Int32) (ss : Int32) (sz : Nat)  : Met l yX5_isLost (wz yX5_isLost cX5_isLost 1 (some .boolean)) ({ frames := 0, cells := 0, slots := 0, locals := 0 }) (va_Pc [.ref h0] (zPre dC dI k T (zShe k h0 a1 it (-1) ss) sz)) (va_Qi (fun (r : Int32) (u : Unit) => r = 1) (fun u t => zPost dC dI (va_A (zShe k h0 a1 it (-1) ss) sz) (zShe k h0 a1 it (-1) ss) t) (va_A (zShe k h0 a1 it (-1) ss) sz)) 0 0 (va_A (zShe k h0 a1 it (-1) ss) sz) := by
  refine Met.ofW (cc := cX5_isLost) (maxL := 1) (ret := (some .boolean)) (by decide) rfl ?_
  intro p e s m args below meth c s₁ B hml hv
  obtain ⟨rfl, hsz, hP, hK, hD0⟩ := hv
  have hx := B.exec
  have hb := B.bytes
  have hr := B.returns
  have hts : ∀ w ∈ zw, w.before _ s = true := fun w h => atoms_spec (ws := (wz yX5_isLost cX5_isLost 1 (some .boolean))) B.pre w (List.mem_cons_of_mem _ h)
  have hown : s.vm.findClass RX5 = some m.cls := findClass_of_methodNamed B.named
  have hlocks := B.notSynchronized
  subst hsz
  have hi5 := inw5
  have hD := hD0.self (sz := s.heap.size)
  generalize hAe : va_A (zShe k h0 a1 it (-1) ss) s.heap.size = A at hD ⊢
  have hA : ∀ q : Nat, s.heap.size ≤ q → A q := fun q h => by rw [← hAe]; exact Or.inr h
  have hl := lv_entry ([.ref h0]) (n := 1) (Nat.le_of_ble_eq_true rfl)
  rw [lg_entry_eq]
  generalize (lg_sl ([.ref h0]) ++ List.replicate (1 - (lg_sl ([.ref h0])).length) Slot.unset).toArray = ls at hl ⊢
  have hl : lv_has ls 1 [(0, .ref h0)] := hl
  refine z_start (w := (zShe k h0 a1 it (-1) ss)) hP hD (fun H locs hP hD hS => ?_)
  refine lv_aload_n hx hb dX5_isLost_0 rfl (lv_at hl 0 rfl) ?_
  refine va_get (D := (dC, dI)) (ci := 5) (v := .int (-1)) (C := RX5) (T := TX5) (N := 3) hx hb hts hi5 hown hK.1 hP 0 rfl rfl 1 (by decide) (hts _ wmt1_159) (fun _ h9 => h9) rfl dX5_isLost_1 ?_
  refine lv_iconst (v := (-1)) hx hb dX5_isLost_4 (by decide) ?_
  refine lv_icmp_ne (tgt := 12) hx hb dX5_isLost_5 (by decide) (fun c_1 => ?_) (fun c_1 => ?_)
  · skip
    exact absurd c_1 (by decide)
  · skip
    refine lv_iconst (v := 1) hx hb dX5_isLost_8 (by decide) ?_
    refine lv_goto (tgt := 13) hx hb dX5_isLost_9 (by decide) ?_
    exact W.zret (v := 1) (ty := .boolean) hx hb hr rfl (fun t ht hW => ⟨⟨1, (), rfl, (by first | assumption | with_reducible rfl | contradiction | exact (if_pos (by repeat' (first | assumption | decide | constructor))).symm | exact (if_neg (fun hh => absurd hh (by assumption))).symm | exact (if_neg (fun hh => absurd hh.1 (by assumption))).symm | exact (if_neg (fun hh => absurd hh.2 (by assumption))).symm | exact (if_neg (fun hh => absurd hh.1.1 (by assumption))).symm | exact (if_neg (fun hh => absurd hh.1.2 (by assumption))).symm | exact (if_neg (fun hh => absurd hh.2.1 (by assumption))).symm | exact (if_neg (fun hh => absurd hh.2.2 (by assumption))).symm | exact (if_neg (fun hh => absurd hh.2.2.1 (by assumption))).symm | exact (if_neg (fun hh => absurd hh.2.2.2 (by assumption))).symm | exact (if_neg (fun hh => absurd hh.2.2.2.1 (by assumption))).symm | exact (if_neg (fun hh => absurd hh.2.2.2.2 (by assumption))).symm | decide | (exfalso; simp only [zi_le, zi_lt, zi_eq, zi_n0, zi_n1, zi_n2, zi_n3, zi_n4, zi_n23, zi_n24, zi_n100, zi_n399, zi_n60, zi_n255, zi_n99, zi_nm1, zi_n30] at *; omega) | (simp_all; done)), ⟨by rw [ht]; exact hP, hD⟩⟩, hS.F ht⟩) hS.2.2 dX5_isLost_13
set_option maxHeartbeats 4000000 in
set_option maxRecDepth 100000 in
theorem c_X5_begin (l : Launch) (dC : Nat → ClassId) (dI : Nat → Nat → Nat) (k : Nat → ClassId) (T : List (ClassId × FieldType)) (h0 : Nat) (a1 : Nat) (it : Nat → Int32) (sk : Int32) (ss : Int32) (tt : Int32) (n : Int32) (sz : Nat)  : Met l yX5_begin (wz yX5_begin cX5_begin 3 none) ({ frames := 1, cells := 0, slots := 0, locals := 23 }) (va_Pc [.ref h0, .int tt, .int n] (zPre dC dI k T (zShe k h0 a1 it sk ss) sz)) (va_Qv (fun (u : (Nat → Int32) × Int32 × Int32) => True) (fun u t => zPost dC dI (va_A (zShe k h0 a1 it sk ss) sz) (zShe k h0 a1 u.1 u.2.1 u.2.2) t) (va_A (zShe k h0 a1 it sk ss) sz)) 0 0 (va_A (zShe k h0 a1 it sk ss) sz) := by
  refine Met.ofW (cc := cX5_begin) (maxL := 3) (ret := none) (by decide) rfl ?_
  intro p e s m args below meth c s₁ B hml hv
  obtain ⟨rfl, hsz, hP, hK, hD0⟩ := hv
  have hx := B.exec
  have hb := B.bytes
  have hr := B.returns
  have hts : ∀ w ∈ zw, w.before _ s = true := fun w h => atoms_spec (ws := (wz yX5_begin cX5_begin 3 none)) B.pre w (List.mem_cons_of_mem _ h)
  have hown : s.vm.findClass RX5 = some m.cls := findClass_of_methodNamed B.named
  have hlocks := B.notSynchronized
  subst hsz
  have hi5 := inw5
  have hD := hD0.self (sz := s.heap.size)
  generalize hAe : va_A (zShe k h0 a1 it sk ss) s.heap.size = A at hD ⊢
  have hA : ∀ q : Nat, s.heap.size ≤ q → A q := fun q h => by rw [← hAe]; exact Or.inr h
  have hl := lv_entry ([.ref h0, .int tt, .int n]) (n := 3) (Nat.le_of_ble_eq_true rfl)
  rw [lg_entry_eq]
  generalize (lg_sl ([.ref h0, .int tt, .int n]) ++ List.replicate (3 - (lg_sl ([.ref h0, .int tt, .int n])).length) Slot.unset).toArray = ls at hl ⊢
  have hl : lv_has ls 3 [(0, .ref h0), (1, .int tt), (2, .int n)] := hl
  refine z_start (w := (zShe k h0 a1 it sk ss)) hP hD (fun H locs hP hD hS => ?_)
  refine lv_aload_n hx hb dX5_begin_0 rfl (lv_at hl 0 rfl) ?_
  refine va_get (D := (dC, dI)) (ci := 5) (v := .ref a1) (C := RX5) (T := TX5) (N := 3) hx hb hts hi5 hown hK.1 hP 0 rfl rfl 0 (by decide) (hts _ wmt1_157) (fun _ h9 => h9) rfl dX5_begin_1 ?_
  refine lv_iconst (v := 0) hx hb dX5_begin_4 (by decide) ?_
  refine zc_v (w := (zShe k h0 a1 it sk ss)) (wc := [(a1, .inl (k 0, 60, .inl it))]) (wr := ([0].filterMap (fun i => (zShe k h0 a1 it sk ss)[i]?))) (va_runS (As := [.ref a1, .int 0]) (rest := []) ⟨hx, hb, hml, hown, hts⟩ (c_J7_fill_53178_60 l dC dI k T a1 it _ ) (va_cwS 2 hts (gzS wmt3_96 wmt3_6 wmt1_9 wmt3_7) rfl rfl rfl (by decide +kernel) ⟨Nat.le_of_ble_eq_true rfl, Nat.le_of_ble_eq_true rfl⟩) (zp_S hK hP hD [1] rfl rfl) rfl rfl hl.1 rfl (lv_room (Nat.le_of_ble_eq_true rfl)) dX5_begin_5 ⟨Nat.le_of_ble_eq_true rfl, Nat.le_of_ble_eq_true rfl⟩) hP hD hS hA [1] [0] rfl rfl (by decide) (by decide) (fun u_2 H locs w_3 hP hD hS => ?_)
  obtain ⟨of_4, rfl⟩ : ∃ z, z = u_2 := ⟨_, rfl⟩
  have hP : va_P (dC, dI) vwCl (zShe k h0 a1 of_4 sk ss) H := hP.sub [0, 1] rfl
  have hD : va_D A (zShe k h0 a1 of_4 sk ss) := hD.sub [0, 1] (by decide) rfl
  refine lv_aload_n hx hb dX5_begin_8 rfl (lv_at hl 0 rfl) ?_
  refine lv_iload_n hx hb dX5_begin_9 rfl (lv_at hl 1 rfl) ?_
  refine va_put (D := (dC, dI)) (ci := 5) (v := .int tt) (ty := .int) (C := RX5) (T := TX5) (N := 3) hx hb hts hi5 tyX5 tyX5_ok nmX5 hown hK.1 hP hD hS 0 rfl rfl 1 (by decide) (hts _ wmt1_159) (fun _ h9 => h9) rfl (by decide +kernel) rfl rfl (Nat.le_of_ble_eq_true rfl) dX5_begin_10 (fun H locs hP hD hS => ?_)
  have hP : va_P (dC, dI) vwCl (zShe k h0 a1 of_4 tt ss) H := hP
  have hD : va_D A (zShe k h0 a1 of_4 tt ss) := hD
  refine lv_aload_n hx hb dX5_begin_13 rfl (lv_at hl 0 rfl) ?_
  refine lv_iload_n hx hb dX5_begin_14 rfl (lv_at hl 2 rfl) ?_
  refine va_put (D := (dC, dI)) (ci := 5) (v := .int n) (ty := .int) (C := RX5) (T := TX5) (N := 3) hx hb hts hi5 tyX5 tyX5_ok nmX5 hown hK.1 hP hD hS 0 rfl rfl 2 (by decide) (hts _ wmt1_161) (fun _ h9 => h9) rfl (by decide +kernel) rfl rfl (Nat.le_of_ble_eq_true rfl) dX5_begin_15 (fun H locs hP hD hS => ?_)
  have hP : va_P (dC, dI) vwCl (zShe k h0 a1 of_4 tt n) H := hP
  have hD : va_D A (zShe k h0 a1 of_4 tt n) := hD
  exact W.vret hx hb hr (fun t ht hW => ⟨⟨(of_4, tt, n), rfl, trivial, ⟨by rw [ht]; exact hP, hD⟩⟩, hS.F ht⟩) hS.2.2 dX5_begin_18
