set_option maxHeartbeats 4000000 in
set_option maxRecDepth 100000 in
theorem c_X6_spreadOfYes (l : Launch) (dC : Nat → ClassId) (dI : Nat → Nat → Nat) (k : Nat → ClassId) (T : List (ClassId × FieldType)) (a : Int32) (b : Int32) (n : Int32) (sz : Nat)  : Met l yX6_spreadOfYes (wz yX6_spreadOfYes cX6_spreadOfYes 5 (some .long)) ({ frames := 0, cells := 0, slots := 0, locals := 0 }) (va_Pc [.int a, .int b, .int n] (zPre dC dI k T [] sz)) (va_Ql (fun (r : Int64) (u : Unit) => r = zsp n a b) (fun u t => zPost dC dI (va_A [] sz) [] t) (va_A [] sz)) 0 0 (va_A [] sz) := by
  refine Met.ofW (cc := cX6_spreadOfYes) (maxL := 5) (ret := (some .long)) (by decide) rfl ?_
  intro p e s m args below meth c s₁ B hml hv
  obtain ⟨rfl, hsz, hP, hK, hD0⟩ := hv
  have hx := B.exec
  have hb := B.bytes
  have hr := B.returns
  have hts : ∀ w ∈ zw, w.before _ s = true := fun w h => atoms_spec (ws := (wz yX6_spreadOfYes cX6_spreadOfYes 5 (some .long))) B.pre w (List.mem_cons_of_mem _ h)
  have hown : s.vm.findClass RX6 = some m.cls := findClass_of_methodNamed B.named
  have hlocks := B.notSynchronized
  subst hsz
  have hD := hD0.self (sz := s.heap.size)
  generalize hAe : va_A [] s.heap.size = A at hD ⊢
  have hA : ∀ q : Nat, s.heap.size ≤ q → A q := fun q h => by rw [← hAe]; exact Or.inr h
  have hl := lv_entry ([.int a, .int b, .int n]) (n := 5) (Nat.le_of_ble_eq_true rfl)
  rw [lg_entry_eq]
  generalize (lg_sl ([.int a, .int b, .int n]) ++ List.replicate (5 - (lg_sl ([.int a, .int b, .int n])).length) Slot.unset).toArray = ls at hl ⊢
  have hl : lv_has ls 5 [(0, .int a), (1, .int b), (2, .int n)] := hl
  refine z_start (w := []) hP hD (fun H locs hP hD hS => ?_)
  refine lv_iload_n hx hb dX6_spreadOfYes_0 rfl (lv_at hl 2 rfl) ?_
  refine lv_i2l (v := n.toInt64) hx hb dX6_spreadOfYes_1 rfl ?_
  refine lv_iload_n hx hb dX6_spreadOfYes_2 rfl (lv_at hl 0 rfl) ?_
  refine lv_i2l (v := a.toInt64) hx hb dX6_spreadOfYes_3 rfl ?_
  refine lv_lmul hx hb dX6_spreadOfYes_4 ?_
  refine lv_ldc2 (v := 100) hx hb hown (hts _ wmt2_218) dX6_spreadOfYes_5 ?_
  refine lv_iload_n hx hb dX6_spreadOfYes_8 rfl (lv_at hl 2 rfl) ?_
  refine lv_i2l (v := n.toInt64) hx hb dX6_spreadOfYes_9 rfl ?_
  refine lv_lsub hx hb dX6_spreadOfYes_10 ?_
  refine lv_iload_n hx hb dX6_spreadOfYes_11 rfl (lv_at hl 1 rfl) ?_
  refine lv_i2l (v := b.toInt64) hx hb dX6_spreadOfYes_12 rfl ?_
  refine lv_lmul hx hb dX6_spreadOfYes_13 ?_
  refine lv_ladd hx hb dX6_spreadOfYes_14 ?_
  refine lv_lstore_n (lv' := [(3, .long ((n.toInt64 * a.toInt64) + ((100 - n.toInt64) * b.toInt64))), (0, .int a), (1, .int b), (2, .int n)]) hx hb dX6_spreadOfYes_15 rfl hl (by decide) rfl (fun ls hl => ?_)
  refine lv_lload_n hx hb dX6_spreadOfYes_16 rfl (lv_at hl 0 rfl) ?_
  refine lv_ldc2 (v := 2400) hx hb hown (hts _ wmt3_64) dX6_spreadOfYes_17 ?_
  refine lv_lload_n hx hb dX6_spreadOfYes_20 rfl (lv_at hl 0 rfl) ?_
  refine lv_lsub hx hb dX6_spreadOfYes_21 ?_
  refine lv_lmul hx hb dX6_spreadOfYes_22 ?_
  exact W.lret (v := (((n.toInt64 * a.toInt64) + ((100 - n.toInt64) * b.toInt64)) * (2400 - ((n.toInt64 * a.toInt64) + ((100 - n.toInt64) * b.toInt64))))) hx hb hr (fun t ht hW => ⟨⟨(((n.toInt64 * a.toInt64) + ((100 - n.toInt64) * b.toInt64)) * (2400 - ((n.toInt64 * a.toInt64) + ((100 - n.toInt64) * b.toInt64)))), (), rfl, rfl, ⟨by rw [ht]; exact hP, hD⟩⟩, hS.F ht⟩) hS.2.2 dX6_spreadOfYes_23
set_option maxHeartbeats 4000000 in
set_option maxRecDepth 100000 in
theorem c_X6_scattersLess (l : Launch) (dC : Nat → ClassId) (dI : Nat → Nat → Nat) (k : Nat → ClassId) (T : List (ClassId × FieldType)) (a : Int32) (b : Int32) (bA : Int32) (bB : Int32) (n : Int32) (sz : Nat)  : Met l yX6_scattersLess (wz yX6_scattersLess cX6_scattersLess 9 (some .boolean)) ({ frames := 1, cells := 0, slots := 0, locals := 24 }) (va_Pc [.int a, .int b, .int bA, .int bB, .int n] (zPre dC dI k T [] sz)) (va_Qi (fun (r : Int32) (u : Unit) => (r = 1 ∧ ¬ zsp n bA bB * zsq a b ≤ zsp n a b * zsq bA bB) ∨ (r = 0 ∧ zsp n bA bB * zsq a b ≤ zsp n a b * zsq bA bB)) (fun u t => zPost dC dI (va_A [] sz) [] t) (va_A [] sz)) 0 0 (va_A [] sz) := by
  refine Met.ofW (cc := cX6_scattersLess) (maxL := 9) (ret := (some .boolean)) (by decide) rfl ?_
  intro p e s m args below meth c s₁ B hml hv
  obtain ⟨rfl, hsz, hP, hK, hD0⟩ := hv
  have hx := B.exec
  have hb := B.bytes
  have hr := B.returns
  have hts : ∀ w ∈ zw, w.before _ s = true := fun w h => atoms_spec (ws := (wz yX6_scattersLess cX6_scattersLess 9 (some .boolean))) B.pre w (List.mem_cons_of_mem _ h)
  have hown : s.vm.findClass RX6 = some m.cls := findClass_of_methodNamed B.named
  have hlocks := B.notSynchronized
  subst hsz
  have hD := hD0.self (sz := s.heap.size)
  generalize hAe : va_A [] s.heap.size = A at hD ⊢
  have hA : ∀ q : Nat, s.heap.size ≤ q → A q := fun q h => by rw [← hAe]; exact Or.inr h
  have hl := lv_entry ([.int a, .int b, .int bA, .int bB, .int n]) (n := 9) (Nat.le_of_ble_eq_true rfl)
  rw [lg_entry_eq]
  generalize (lg_sl ([.int a, .int b, .int bA, .int bB, .int n]) ++ List.replicate (9 - (lg_sl ([.int a, .int b, .int bA, .int bB, .int n])).length) Slot.unset).toArray = ls at hl ⊢
  have hl : lv_has ls 9 [(0, .int a), (1, .int b), (2, .int bA), (3, .int bB), (4, .int n)] := hl
  refine z_start (w := []) hP hD (fun H locs hP hD hS => ?_)
  refine lv_iload_n hx hb dX6_scattersLess_0 rfl (lv_at hl 0 rfl) ?_
  refine lv_iload_n hx hb dX6_scattersLess_1 rfl (lv_at hl 1 rfl) ?_
  refine lv_isub hx hb dX6_scattersLess_2 ?_
  refine lv_i2l (v := (a - b).toInt64) hx hb dX6_scattersLess_3 rfl ?_
  refine lv_iload_n hx hb dX6_scattersLess_4 rfl (lv_at hl 0 rfl) ?_
  refine lv_iload_n hx hb dX6_scattersLess_5 rfl (lv_at hl 1 rfl) ?_
  refine lv_isub hx hb dX6_scattersLess_6 ?_
  refine lv_i2l (v := (a - b).toInt64) hx hb dX6_scattersLess_7 rfl ?_
  refine lv_lmul hx hb dX6_scattersLess_8 ?_
  refine lv_lstore (lv' := [(5, .long (((a - b).toInt64) * ((a - b).toInt64))), (0, .int a), (1, .int b), (2, .int bA), (3, .int bB), (4, .int n)]) hx hb dX6_scattersLess_9 hl (by decide) rfl (fun ls hl => ?_)
  refine lv_iload_n hx hb dX6_scattersLess_11 rfl (lv_at hl 3 rfl) ?_
  refine lv_iload_n hx hb dX6_scattersLess_12 rfl (lv_at hl 4 rfl) ?_
  refine lv_isub hx hb dX6_scattersLess_13 ?_
  refine lv_i2l (v := (bA - bB).toInt64) hx hb dX6_scattersLess_14 rfl ?_
  refine lv_iload_n hx hb dX6_scattersLess_15 rfl (lv_at hl 3 rfl) ?_
  refine lv_iload_n hx hb dX6_scattersLess_16 rfl (lv_at hl 4 rfl) ?_
  refine lv_isub hx hb dX6_scattersLess_17 ?_
  refine lv_i2l (v := (bA - bB).toInt64) hx hb dX6_scattersLess_18 rfl ?_
  refine lv_lmul hx hb dX6_scattersLess_19 ?_
  refine lv_lstore (lv' := [(7, .long (((bA - bB).toInt64) * ((bA - bB).toInt64))), (5, .long (((a - b).toInt64) * ((a - b).toInt64))), (0, .int a), (1, .int b), (2, .int bA), (3, .int bB), (4, .int n)]) hx hb dX6_scattersLess_20 hl (by decide) rfl (fun ls hl => ?_)
  refine lv_iload_n hx hb dX6_scattersLess_22 rfl (lv_at hl 2 rfl) ?_
  refine lv_iload_n hx hb dX6_scattersLess_23 rfl (lv_at hl 3 rfl) ?_
  refine lv_iload hx hb dX6_scattersLess_24 (lv_at hl 6 rfl) ?_
  refine zc0_l (w := []) (va_runS (As := [.int a, .int b, .int n]) (rest := []) ⟨hx, hb, hml, hown, hts⟩ (c_X6_spreadOfYes l dC dI k T a b n _ ) (va_cwS 3 hts (gzS wmt3_61 wmt3_62 wmt1_1 wmt3_63) rfl rfl rfl (by decide +kernel) ⟨Nat.le_of_ble_eq_true rfl, Nat.le_of_ble_eq_true rfl⟩) (zp0_S hK) rfl rfl hl.1 rfl (lv_room (Nat.le_of_ble_eq_true rfl)) dX6_scattersLess_26 ⟨Nat.le_of_ble_eq_true rfl, Nat.le_of_ble_eq_true rfl⟩) hP hS hA (fun r_1 u_2 H locs w_3 hP hS => ?_)
  have e_4 := w_3
  replace e_4 : r_1 = zsp n a b := e_4
  subst e_4
  refine lv_lload hx hb dX6_scattersLess_29 (lv_at hl 0 rfl) ?_
  refine lv_lmul hx hb dX6_scattersLess_31 ?_
  refine lv_iload_n hx hb dX6_scattersLess_32 rfl (lv_at hl 4 rfl) ?_
  refine lv_iload_n hx hb dX6_scattersLess_33 rfl (lv_at hl 5 rfl) ?_
  refine lv_iload hx hb dX6_scattersLess_34 (lv_at hl 6 rfl) ?_
  refine zc0_l (w := []) (va_runS (As := [.int bA, .int bB, .int n]) (rest := [.long ((zsp n a b) * (((bA - bB).toInt64) * ((bA - bB).toInt64)))]) ⟨hx, hb, hml, hown, hts⟩ (c_X6_spreadOfYes l dC dI k T bA bB n _ ) (va_cwS 3 hts (gzS wmt3_61 wmt3_62 wmt1_1 wmt3_63) rfl rfl rfl (by decide +kernel) ⟨Nat.le_of_ble_eq_true rfl, Nat.le_of_ble_eq_true rfl⟩) (zp0_S hK) rfl rfl hl.1 rfl (lv_room (Nat.le_of_ble_eq_true rfl)) dX6_scattersLess_36 ⟨Nat.le_of_ble_eq_true rfl, Nat.le_of_ble_eq_true rfl⟩) hP hS hA (fun r_5 u_6 H locs w_7 hP hS => ?_)
  have e_8 := w_7
  replace e_8 : r_5 = zsp n bA bB := e_8
  subst e_8
  refine lv_lload hx hb dX6_scattersLess_39 (lv_at hl 1 rfl) ?_
  refine lv_lmul hx hb dX6_scattersLess_41 ?_
  refine z_lcmp hx hb dX6_scattersLess_42 ?_
  refine lv_if_ge (tgt := 50) hx hb dX6_scattersLess_43 (by decide) (fun c_9 => ?_) (fun c_9 => ?_)
  · skip
    replace c_9 := (lg_cmp_ge ((zsp n a b) * (((bA - bB).toInt64) * ((bA - bB).toInt64))) ((zsp n bA bB) * (((a - b).toInt64) * ((a - b).toInt64)))).mp c_9
    refine lv_iconst (v := 0) hx hb dX6_scattersLess_50 (by decide) ?_
    exact W.zret (v := 0) (ty := .boolean) hx hb hr rfl (fun t ht hW => ⟨⟨0, (), rfl, Or.inr ⟨rfl, by assumption⟩, ⟨by rw [ht]; exact hP, hD⟩⟩, hS.F ht⟩) hS.2.2 dX6_scattersLess_51
  · skip
    replace c_9 := fun h => c_9 ((lg_cmp_ge ((zsp n a b) * (((bA - bB).toInt64) * ((bA - bB).toInt64))) ((zsp n bA bB) * (((a - b).toInt64) * ((a - b).toInt64)))).mpr h)
    refine lv_iconst (v := 1) hx hb dX6_scattersLess_46 (by decide) ?_
    refine lv_goto (tgt := 51) hx hb dX6_scattersLess_47 (by decide) ?_
    exact W.zret (v := 1) (ty := .boolean) hx hb hr rfl (fun t ht hW => ⟨⟨1, (), rfl, Or.inl ⟨rfl, by assumption⟩, ⟨by rw [ht]; exact hP, hD⟩⟩, hS.F ht⟩) hS.2.2 dX6_scattersLess_51
set_option maxHeartbeats 4000000 in
set_option maxRecDepth 100000 in
theorem c_X6_best (l : Launch) (dC : Nat → ClassId) (dI : Nat → Nat → Nat) (k : Nat → ClassId)  (q : Nat → Nat) (aps : Int32) (ar1 : Nat → Int32) (ar2 : Nat → Int32) (ar3 : Nat → Int32) (ar4 : Nat → Int32) (ar5 : Nat → Int32) (ar6 : Nat → Int32) (ar7 : Nat → Int32) (ph : Int32) (pp : Int32) (py : Int32) (wy : Nat → Int64) (fa : Int64) (fb : Int64) (cm0 : Int64) (ia0 : Int32) (ih0 : Int32) (in0 : Int32) (il0 : Int32) (tx0 : Nat → Int32) (sh0 : Nat → Int64) (cm1 : Int64) (ia1 : Int32) (ih1 : Int32) (in1 : Int32) (il1 : Int32) (tx1 : Nat → Int32) (sh1 : Nat → Int64) (cm2 : Int64) (ia2 : Int32) (ih2 : Int32) (in2 : Int32) (il2 : Int32) (tx2 : Nat → Int32) (sh2 : Nat → Int64) (cm3 : Int64) (ia3 : Int32) (ih3 : Int32) (in3 : Int32) (il3 : Int32) (tx3 : Nat → Int32) (sh3 : Nat → Int64) (it0 : Nat → Int32) (it1 : Nat → Int32) (it2 : Nat → Int32) (it3 : Nat → Int32) (v : Int32) (n : Int32) (w : Int32) (sz : Nat)  : Met l yX6_best (wz yX6_best cX6_best 9 (some .int)) ({ frames := 2, cells := 0, slots := 0, locals := 52 }) (va_Pc [.ref (q 0), .int v, .int n, .int w] (zPre dC dI k (zTX k) (zX k q 0 (-1) 12 100 0 (fun _ => 0) aps 0 ar1 ar2 ar3 ar4 ar5 ar6 ar7 ph pp py wy fa fb cm0 ia0 0 0 ih0 in0 il0 tx0 sh0 cm1 ia1 0 0 ih1 in1 il1 tx1 sh1 cm2 ia2 0 0 ih2 in2 il2 tx2 sh2 cm3 ia3 0 0 ih3 in3 il3 tx3 sh3 (-1) 0 it0 (-1) 0 it1 (-1) 0 it2 (-1) 0 it3) sz)) (va_Qi (fun (r : Int32) (u : Unit) => (r = if (2 ≤ v ∧ v ≤ 30) ∧ (0 ≤ n ∧ n ≤ 100) ∧ (0 ≤ (w : Int32) ∧ (w : Int32) ≤ 1) then zBr v n w else (-2))) (fun u t => zPost dC dI (va_A (zX k q 0 (-1) 12 100 0 (fun _ => 0) aps 0 ar1 ar2 ar3 ar4 ar5 ar6 ar7 ph pp py wy fa fb cm0 ia0 0 0 ih0 in0 il0 tx0 sh0 cm1 ia1 0 0 ih1 in1 il1 tx1 sh1 cm2 ia2 0 0 ih2 in2 il2 tx2 sh2 cm3 ia3 0 0 ih3 in3 il3 tx3 sh3 (-1) 0 it0 (-1) 0 it1 (-1) 0 it2 (-1) 0 it3) sz) (zX k q 0 (-1) 12 100 0 (fun _ => 0) aps 0 ar1 ar2 ar3 ar4 ar5 ar6 ar7 ph pp py wy fa fb cm0 ia0 0 0 ih0 in0 il0 tx0 sh0 cm1 ia1 0 0 ih1 in1 il1 tx1 sh1 cm2 ia2 0 0 ih2 in2 il2 tx2 sh2 cm3 ia3 0 0 ih3 in3 il3 tx3 sh3 (-1) 0 it0 (-1) 0 it1 (-1) 0 it2 (-1) 0 it3) t) (va_A (zX k q 0 (-1) 12 100 0 (fun _ => 0) aps 0 ar1 ar2 ar3 ar4 ar5 ar6 ar7 ph pp py wy fa fb cm0 ia0 0 0 ih0 in0 il0 tx0 sh0 cm1 ia1 0 0 ih1 in1 il1 tx1 sh1 cm2 ia2 0 0 ih2 in2 il2 tx2 sh2 cm3 ia3 0 0 ih3 in3 il3 tx3 sh3 (-1) 0 it0 (-1) 0 it1 (-1) 0 it2 (-1) 0 it3) sz)) 0 0 (va_A (zX k q 0 (-1) 12 100 0 (fun _ => 0) aps 0 ar1 ar2 ar3 ar4 ar5 ar6 ar7 ph pp py wy fa fb cm0 ia0 0 0 ih0 in0 il0 tx0 sh0 cm1 ia1 0 0 ih1 in1 il1 tx1 sh1 cm2 ia2 0 0 ih2 in2 il2 tx2 sh2 cm3 ia3 0 0 ih3 in3 il3 tx3 sh3 (-1) 0 it0 (-1) 0 it1 (-1) 0 it2 (-1) 0 it3) sz) := by
  refine Met.ofW (cc := cX6_best) (maxL := 9) (ret := (some .int)) (by decide) rfl ?_
  intro p e s m args below meth c s₁ B hml hv
  obtain ⟨rfl, hsz, hP, hK, hD0⟩ := hv
  have hx := B.exec
  have hb := B.bytes
  have hr := B.returns
  have hts : ∀ w ∈ zw, w.before _ s = true := fun w h => atoms_spec (ws := (wz yX6_best cX6_best 9 (some .int))) B.pre w (List.mem_cons_of_mem _ h)
  have hown : s.vm.findClass RX6 = some m.cls := findClass_of_methodNamed B.named
  have hlocks := B.notSynchronized
  subst hsz
  have hD := hD0.self (sz := s.heap.size)
  generalize hAe : va_A (zX k q 0 (-1) 12 100 0 (fun _ => 0) aps 0 ar1 ar2 ar3 ar4 ar5 ar6 ar7 ph pp py wy fa fb cm0 ia0 0 0 ih0 in0 il0 tx0 sh0 cm1 ia1 0 0 ih1 in1 il1 tx1 sh1 cm2 ia2 0 0 ih2 in2 il2 tx2 sh2 cm3 ia3 0 0 ih3 in3 il3 tx3 sh3 (-1) 0 it0 (-1) 0 it1 (-1) 0 it2 (-1) 0 it3) s.heap.size = A at hD ⊢
  have hA : ∀ q : Nat, s.heap.size ≤ q → A q := fun q h => by rw [← hAe]; exact Or.inr h
  have hl := lv_entry ([.ref (q 0), .int v, .int n, .int w]) (n := 9) (Nat.le_of_ble_eq_true rfl)
  rw [lg_entry_eq]
  generalize (lg_sl ([.ref (q 0), .int v, .int n, .int w]) ++ List.replicate (9 - (lg_sl ([.ref (q 0), .int v, .int n, .int w])).length) Slot.unset).toArray = ls at hl ⊢
  have hl : lv_has ls 9 [(0, .ref (q 0)), (1, .int v), (2, .int n), (3, .int w)] := hl
  refine z_start (w := (zX k q 0 (-1) 12 100 0 (fun _ => 0) aps 0 ar1 ar2 ar3 ar4 ar5 ar6 ar7 ph pp py wy fa fb cm0 ia0 0 0 ih0 in0 il0 tx0 sh0 cm1 ia1 0 0 ih1 in1 il1 tx1 sh1 cm2 ia2 0 0 ih2 in2 il2 tx2 sh2 cm3 ia3 0 0 ih3 in3 il3 tx3 sh3 (-1) 0 it0 (-1) 0 it1 (-1) 0 it2 (-1) 0 it3)) hP hD (fun H locs hP hD hS => ?_)
  refine lv_iload_n hx hb dX6_best_0 rfl (lv_at hl 1 rfl) ?_
  refine lv_iconst (v := 2) hx hb dX6_best_1 (by decide) ?_
  refine lv_icmp_lt (tgt := 28) hx hb dX6_best_2 (by decide) (fun c_1 => ?_) (fun c_1 => ?_)
  · skip
    replace c_1 := Int32.not_le.mpr c_1
    have c_1' : v ≤ 1 := Decidable.not_not.mp (fun h => c_1 ((z_ge_pred (by decide)).mpr h))
    refine lv_bipush (v := (-2)) hx hb dX6_best_28 (by decide) ?_
    exact W.iret (v := (-2)) hx hb hr (fun t ht hW => ⟨⟨(-2), (), rfl, (by first | assumption | with_reducible rfl | contradiction | exact (if_pos (by repeat' (first | assumption | decide | constructor))).symm | exact (if_neg (fun hh => absurd hh (by assumption))).symm | exact (if_neg (fun hh => absurd hh.1 (by assumption))).symm | exact (if_neg (fun hh => absurd hh.1.1 (by assumption))).symm | exact (if_neg (fun hh => absurd hh.1.2 (by assumption))).symm | exact (if_neg (fun hh => absurd hh.2 (by assumption))).symm | exact (if_neg (fun hh => absurd hh.2.1 (by assumption))).symm | exact (if_neg (fun hh => absurd hh.2.1.1 (by assumption))).symm | exact (if_neg (fun hh => absurd hh.2.1.2 (by assumption))).symm | exact (if_neg (fun hh => absurd hh.2.2 (by assumption))).symm | exact (if_neg (fun hh => absurd hh.2.2.1 (by assumption))).symm | exact (if_neg (fun hh => absurd hh.2.2.2 (by assumption))).symm | decide | (exfalso; simp only [zi_le, zi_lt, zi_eq, zi_n0, zi_n1, zi_n2, zi_n3, zi_n4, zi_n23, zi_n24, zi_n100, zi_n399, zi_n60, zi_n255, zi_n99, zi_nm1, zi_n30] at *; omega) | (simp_all; done)), ⟨by rw [ht]; exact hP, hD⟩⟩, hS.F ht⟩) hS.2.2 dX6_best_30
  · skip
    replace c_1 := Int32.not_lt.mp c_1
    have c_1' : ¬ v ≤ 1 := (z_ge_pred (by decide)).mp c_1
    refine lv_iload_n hx hb dX6_best_5 rfl (lv_at hl 1 rfl) ?_
    refine lv_bipush (v := 30) hx hb dX6_best_6 (by decide) ?_
    refine lv_icmp_gt (tgt := 28) hx hb dX6_best_8 (by decide) (fun c_2 => ?_) (fun c_2 => ?_)
    · skip
      replace c_2 := Int32.not_le.mpr c_2
      refine lv_bipush (v := (-2)) hx hb dX6_best_28 (by decide) ?_
      exact W.iret (v := (-2)) hx hb hr (fun t ht hW => ⟨⟨(-2), (), rfl, (by first | assumption | with_reducible rfl | contradiction | exact (if_pos (by repeat' (first | assumption | decide | constructor))).symm | exact (if_neg (fun hh => absurd hh (by assumption))).symm | exact (if_neg (fun hh => absurd hh.1 (by assumption))).symm | exact (if_neg (fun hh => absurd hh.1.1 (by assumption))).symm | exact (if_neg (fun hh => absurd hh.1.2 (by assumption))).symm | exact (if_neg (fun hh => absurd hh.2 (by assumption))).symm | exact (if_neg (fun hh => absurd hh.2.1 (by assumption))).symm | exact (if_neg (fun hh => absurd hh.2.1.1 (by assumption))).symm | exact (if_neg (fun hh => absurd hh.2.1.2 (by assumption))).symm | exact (if_neg (fun hh => absurd hh.2.2 (by assumption))).symm | exact (if_neg (fun hh => absurd hh.2.2.1 (by assumption))).symm | exact (if_neg (fun hh => absurd hh.2.2.2 (by assumption))).symm | decide | (exfalso; simp only [zi_le, zi_lt, zi_eq, zi_n0, zi_n1, zi_n2, zi_n3, zi_n4, zi_n23, zi_n24, zi_n100, zi_n399, zi_n60, zi_n255, zi_n99, zi_nm1, zi_n30] at *; omega) | (simp_all; done)), ⟨by rw [ht]; exact hP, hD⟩⟩, hS.F ht⟩) hS.2.2 dX6_best_30
    · skip
      replace c_2 := Int32.not_lt.mp c_2
      refine lv_iload_n hx hb dX6_best_11 rfl (lv_at hl 2 rfl) ?_
      refine lv_if_lt (tgt := 28) hx hb dX6_best_12 (by decide) (fun c_3 => ?_) (fun c_3 => ?_)
      · skip
        replace c_3 := Int32.not_le.mpr c_3
        refine lv_bipush (v := (-2)) hx hb dX6_best_28 (by decide) ?_
        exact W.iret (v := (-2)) hx hb hr (fun t ht hW => ⟨⟨(-2), (), rfl, (by first | assumption | with_reducible rfl | contradiction | exact (if_pos (by repeat' (first | assumption | decide | constructor))).symm | exact (if_neg (fun hh => absurd hh (by assumption))).symm | exact (if_neg (fun hh => absurd hh.1 (by assumption))).symm | exact (if_neg (fun hh => absurd hh.1.1 (by assumption))).symm | exact (if_neg (fun hh => absurd hh.1.2 (by assumption))).symm | exact (if_neg (fun hh => absurd hh.2 (by assumption))).symm | exact (if_neg (fun hh => absurd hh.2.1 (by assumption))).symm | exact (if_neg (fun hh => absurd hh.2.1.1 (by assumption))).symm | exact (if_neg (fun hh => absurd hh.2.1.2 (by assumption))).symm | exact (if_neg (fun hh => absurd hh.2.2 (by assumption))).symm | exact (if_neg (fun hh => absurd hh.2.2.1 (by assumption))).symm | exact (if_neg (fun hh => absurd hh.2.2.2 (by assumption))).symm | decide | (exfalso; simp only [zi_le, zi_lt, zi_eq, zi_n0, zi_n1, zi_n2, zi_n3, zi_n4, zi_n23, zi_n24, zi_n100, zi_n399, zi_n60, zi_n255, zi_n99, zi_nm1, zi_n30] at *; omega) | (simp_all; done)), ⟨by rw [ht]; exact hP, hD⟩⟩, hS.F ht⟩) hS.2.2 dX6_best_30
      · skip
        replace c_3 := Int32.not_lt.mp c_3
        refine lv_iload_n hx hb dX6_best_15 rfl (lv_at hl 2 rfl) ?_
        refine lv_bipush (v := 100) hx hb dX6_best_16 (by decide) ?_
        refine lv_icmp_gt (tgt := 28) hx hb dX6_best_18 (by decide) (fun c_4 => ?_) (fun c_4 => ?_)
        · skip
          replace c_4 := Int32.not_le.mpr c_4
          refine lv_bipush (v := (-2)) hx hb dX6_best_28 (by decide) ?_
          exact W.iret (v := (-2)) hx hb hr (fun t ht hW => ⟨⟨(-2), (), rfl, (by first | assumption | with_reducible rfl | contradiction | exact (if_pos (by repeat' (first | assumption | decide | constructor))).symm | exact (if_neg (fun hh => absurd hh (by assumption))).symm | exact (if_neg (fun hh => absurd hh.1 (by assumption))).symm | exact (if_neg (fun hh => absurd hh.1.1 (by assumption))).symm | exact (if_neg (fun hh => absurd hh.1.2 (by assumption))).symm | exact (if_neg (fun hh => absurd hh.2 (by assumption))).symm | exact (if_neg (fun hh => absurd hh.2.1 (by assumption))).symm | exact (if_neg (fun hh => absurd hh.2.1.1 (by assumption))).symm | exact (if_neg (fun hh => absurd hh.2.1.2 (by assumption))).symm | exact (if_neg (fun hh => absurd hh.2.2 (by assumption))).symm | exact (if_neg (fun hh => absurd hh.2.2.1 (by assumption))).symm | exact (if_neg (fun hh => absurd hh.2.2.2 (by assumption))).symm | decide | (exfalso; simp only [zi_le, zi_lt, zi_eq, zi_n0, zi_n1, zi_n2, zi_n3, zi_n4, zi_n23, zi_n24, zi_n100, zi_n399, zi_n60, zi_n255, zi_n99, zi_nm1, zi_n30] at *; omega) | (simp_all; done)), ⟨by rw [ht]; exact hP, hD⟩⟩, hS.F ht⟩) hS.2.2 dX6_best_30
        · skip
          replace c_4 := Int32.not_lt.mp c_4
          refine lv_iload_n hx hb dX6_best_21 rfl (lv_at hl 3 rfl) ?_
          refine zc0_i (w := (zX k q 0 (-1) 12 100 0 (fun _ => 0) aps 0 ar1 ar2 ar3 ar4 ar5 ar6 ar7 ph pp py wy fa fb cm0 ia0 0 0 ih0 in0 il0 tx0 sh0 cm1 ia1 0 0 ih1 in1 il1 tx1 sh1 cm2 ia2 0 0 ih2 in2 il2 tx2 sh2 cm3 ia3 0 0 ih3 in3 il3 tx3 sh3 (-1) 0 it0 (-1) 0 it1 (-1) 0 it2 (-1) 0 it3)) (va_runS (As := [.int w]) (rest := []) ⟨hx, hb, hml, hown, hts⟩ (c_X6_isEither l dC dI k (zTX k) w _ ) (va_cwS 1 hts (gzS wmt2_48 wmt2_49 wmt1_1 wmt2_50) rfl rfl rfl (by decide +kernel) ⟨Nat.le_of_ble_eq_true rfl, Nat.le_of_ble_eq_true rfl⟩) (zp0_S hK) rfl rfl hl.1 rfl (lv_room (Nat.le_of_ble_eq_true rfl)) dX6_best_22 ⟨Nat.le_of_ble_eq_true rfl, Nat.le_of_ble_eq_true rfl⟩) hP hS hA (fun r_5 u_6 H locs w_7 hP hS => ?_)
          rcases w_7 with ⟨e_9, h_8⟩ | ⟨e_11, h_10⟩
          · skip
            replace e_9 : r_5 = 1 := e_9
            subst e_9
            replace h_8 : 0 ≤ (w : Int32) ∧ (w : Int32) ≤ 1 := h_8
            refine lv_if_ne (tgt := 31) hx hb dX6_best_25 (by decide) (fun c_12 => ?_) (fun c_12 => ?_)
            · skip
              refine lv_iconst (v := (-1)) hx hb dX6_best_31 (by decide) ?_
              refine lv_istore (lv' := [(4, .int (-1)), (0, .ref (q 0)), (1, .int v), (2, .int n), (3, .int w)]) hx hb dX6_best_32 hl (by decide) rfl (fun ls hl => ?_)
              refine lv_iconst (v := (-1)) hx hb dX6_best_34 (by decide) ?_
              refine lv_istore (lv' := [(5, .int (-1)), (4, .int (-1)), (0, .ref (q 0)), (1, .int v), (2, .int n), (3, .int w)]) hx hb dX6_best_35 hl (by decide) rfl (fun ls hl => ?_)
              refine lv_iconst (v := 2) hx hb dX6_best_37 (by decide) ?_
              refine lv_istore (lv' := [(6, .int 2), (5, .int (-1)), (4, .int (-1)), (0, .ref (q 0)), (1, .int v), (2, .int n), (3, .int w)]) hx hb dX6_best_38 hl (by decide) rfl (fun ls hl => ?_)
              have hrg : (2 ≤ v ∧ v ≤ 30) ∧ (0 ≤ n ∧ n ≤ 100) ∧ (0 ≤ (w : Int32) ∧ (w : Int32) ≤ 1) := ⟨⟨by assumption, by assumption⟩, ⟨by assumption, by assumption⟩, by assumption⟩
              obtain ⟨ja, eja⟩ : ∃ ja : Nat, ja = 2 := ⟨_, rfl⟩
              obtain ⟨bA, eA⟩ : ∃ x : Int32, x = -1 := ⟨_, rfl⟩
              obtain ⟨bB, eB⟩ : ∃ x : Int32, x = -1 := ⟨_, rfl⟩
              have ho : zO v n ja (24 - ja) (bA, bB) = zR v n := by rw [eja, eA, eB, zR, show (24 - 2 : Nat) = 22 from rfl]
              have hja : 2 ≤ ja ∧ ja ≤ 24 := by omega
              replace hl : lv_has ls 9 [(6, .int (nI ja)), (5, .int bB), (4, .int bA), (0, .ref (q 0)), (1, .int v), (2, .int n), (3, .int w)] := by rw [eja, eA, eB]; exact hl
              obtain ⟨mo, hmo⟩ : ∃ mo : Nat, mo = 24 - ja := ⟨_, rfl⟩
              clear eja eA eB
              refine z_cut hP hD hS hl ?_
              clear hl
              intro H locs ls hP hD hS hl
              induction mo using Nat.strongRecOn generalizing ja bA bB H locs ls with
              | _ mo iho =>
                refine lv_iload hx hb dX6_best_40 (lv_at hl 0 rfl) ?_
                refine lv_bipush (v := 24) hx hb dX6_best_42 (by decide) ?_
                refine lv_icmp_ge (tgt := 134) hx hb dX6_best_44 (by decide) (fun c_13 => ?_) (fun c_13 => ?_)
                · skip
                  have c_13' : ¬ (nI ja) ≤ 23 := (z_ge_pred (by decide)).mp c_13
                  have hres : (bA, bB) = zR v n := by have e8 : 24 ≤ ja := (nI_leI (a := 24) (by decide) (by omega)).mp c_13; rw [show 24 - ja = 0 by omega, zO_0] at ho; exact ho
                  refine lv_iload hx hb dX6_best_134 (lv_at hl 2 rfl) ?_
                  refine lv_iconst (v := (-1)) hx hb dX6_best_136 (by decide) ?_
                  refine lv_icmp_ne (tgt := 143) hx hb dX6_best_137 (by decide) (fun c_14 => ?_) (fun c_14 => ?_)
                  · skip
                    have he0 := c_14
                    refine lv_iload_n hx hb dX6_best_143 rfl (lv_at hl 6 rfl) ?_
                    refine lv_if_ne (tgt := 152) hx hb dX6_best_144 (by decide) (fun c_15 => ?_) (fun c_15 => ?_)
                    · skip
                      have hwn := c_15
                      refine lv_iload hx hb dX6_best_152 (lv_at hl 1 rfl) ?_
                      exact W.iret (v := bB) hx hb hr (fun t ht hW => ⟨⟨bB, (), rfl, (by rw [if_pos hrg, zBr, ← hres]; exact ((if_neg he0).trans (if_neg hwn)).symm), ⟨by rw [ht]; exact hP, hD⟩⟩, hS.F ht⟩) hS.2.2 dX6_best_154
                    · skip
                      have hw0 := c_15
                      refine lv_iload hx hb dX6_best_147 (lv_at hl 2 rfl) ?_
                      refine lv_goto (tgt := 154) hx hb dX6_best_149 (by decide) ?_
                      exact W.iret (v := bA) hx hb hr (fun t ht hW => ⟨⟨bA, (), rfl, (by rw [if_pos hrg, zBr, ← hres]; exact ((if_neg he0).trans (if_pos hw0)).symm), ⟨by rw [ht]; exact hP, hD⟩⟩, hS.F ht⟩) hS.2.2 dX6_best_154
                  · skip
                    have he1 := c_14
                    refine lv_bipush (v := (-3)) hx hb dX6_best_140 (by decide) ?_
                    exact W.iret (v := (-3)) hx hb hr (fun t ht hW => ⟨⟨(-3), (), rfl, (by rw [if_pos hrg, zBr, ← hres]; exact (if_pos he1).symm), ⟨by rw [ht]; exact hP, hD⟩⟩, hS.F ht⟩) hS.2.2 dX6_best_142
                · skip
                  have c_13' : (nI ja) ≤ 23 := Decidable.not_not.mp (fun h => c_13 ((z_ge_pred (by decide)).mpr h))
                  have hja2 : ja < 24 := Nat.lt_of_not_le (fun q => c_13 (nI_le (a := 24) q (by omega)))
                  refine lv_iconst (v := 1) hx hb dX6_best_47 (by decide) ?_
                  refine lv_istore (lv' := [(7, .int 1), (6, .int (nI ja)), (5, .int bB), (4, .int bA), (0, .ref (q 0)), (1, .int v), (2, .int n), (3, .int w)]) hx hb dX6_best_48 hl (by decide) rfl (fun ls hl => ?_)
                  obtain ⟨cA, ecA⟩ : ∃ x : Int32, x = bA := ⟨_, rfl⟩
                  obtain ⟨cB, ecB⟩ : ∃ x : Int32, x = bB := ⟨_, rfl⟩
                  obtain ⟨jb, ejb⟩ : ∃ jb : Nat, jb = 1 := ⟨_, rfl⟩
                  have hi : zO v n (ja + 1) (23 - ja) (zI v n ja jb (ja - jb) (cA, cB)) = zR v n := by rw [ejb, ecA, ecB, ← ho, show 24 - ja = (23 - ja) + 1 by omega, zO_s]
                  have hjb : 1 ≤ jb ∧ jb ≤ ja := by omega
                  replace hl : lv_has ls 9 [(7, .int (nI jb)), (6, .int (nI ja)), (5, .int cB), (4, .int cA), (0, .ref (q 0)), (1, .int v), (2, .int n), (3, .int w)] := by rw [ejb, ecA, ecB]; exact lv_sub hl [0, 1, 2, 3, 4, 5, 6, 7] rfl
                  obtain ⟨mi, hmi⟩ : ∃ mi : Nat, mi = ja - jb := ⟨_, rfl⟩
                  clear ejb ecA ecB
                  refine z_cut hP hD hS hl ?_
                  clear hl
                  intro H locs ls hP hD hS hl
                  induction mi using Nat.strongRecOn generalizing cA cB jb H locs ls with
                  | _ mi ihi =>
                    refine lv_iload hx hb dX6_best_50 (lv_at hl 0 rfl) ?_
                    refine lv_iload hx hb dX6_best_52 (lv_at hl 1 rfl) ?_
                    refine lv_icmp_ge (tgt := 128) hx hb dX6_best_54 (by decide) (fun c_16 => ?_) (fun c_16 => ?_)
                    · skip
                      have hab : ja ≤ jb := (nI_leI (by omega) (by omega)).mp c_16
                      refine lv_iinc (v := nI (ja + 1)) (lv' := [(6, .int (nI (ja + 1))), (7, .int (nI jb)), (5, .int cB), (4, .int cA), (0, .ref (q 0)), (1, .int v), (2, .int n), (3, .int w)]) hx hb dX6_best_128 hl (k := 1) rfl (nI_1 ja) (by decide) rfl (fun ls hl => ?_)
                      refine lv_goto (tgt := 40) hx hb dX6_best_131 (by decide) ?_
                      exact iho (24 - (ja + 1)) (by omega) (ja + 1) cA cB (by rw [show ja - jb = 0 by omega, zI_0] at hi; rw [show 24 - (ja + 1) = 23 - ja by omega]; exact hi) (by omega) rfl H locs ls hP hS (lv_sub hl [0, 2, 3, 4, 5, 6, 7] rfl)
                    · skip
                      have hlt : jb < ja := Nat.lt_of_not_le (fun q => c_16 (nI_le q (by omega)))
                      refine lv_iload hx hb dX6_best_57 (lv_at hl 1 rfl) ?_
                      refine lv_iload_n hx hb dX6_best_59 rfl (lv_at hl 5 rfl) ?_
                      refine lv_iload hx hb dX6_best_60 (lv_at hl 0 rfl) ?_
                      refine lv_imul hx hb dX6_best_62 ?_
                      refine lv_icmp_gt (tgt := 85) hx hb dX6_best_63 (by decide) (fun c_17 => ?_) (fun c_17 => ?_)
                      · skip
                        replace c_17 := Int32.not_le.mpr c_17
                        have hn1 := c_17
                        refine lv_iconst (v := 0) hx hb dX6_best_85 (by decide) ?_
                        refine lv_istore (lv' := [(8, .int 0), (7, .int (nI jb)), (6, .int (nI ja)), (5, .int cB), (4, .int cA), (0, .ref (q 0)), (1, .int v), (2, .int n), (3, .int w)]) hx hb dX6_best_86 hl (by decide) rfl (fun ls hl => ?_)
                        refine lv_iload hx hb dX6_best_88 (lv_at hl 0 rfl) ?_
                        refine lv_if_eq (tgt := 122) hx hb dX6_best_90 (by decide) (fun c_18 => ?_) (fun c_18 => ?_)
                        · skip
                          have hst : zst v n (nI ja) (nI jb) (cA, cB) = (cA, cB) := zst_n (fun h => hn1 h.1.1)
                          refine lv_iinc (v := nI (jb + 1)) (lv' := [(7, .int (nI (jb + 1))), (8, .int 0), (6, .int (nI ja)), (5, .int cB), (4, .int cA), (0, .ref (q 0)), (1, .int v), (2, .int n), (3, .int w)]) hx hb dX6_best_122 hl (k := 1) rfl (nI_1 jb) (by decide) rfl (fun ls hl => ?_)
                          refine lv_goto (tgt := 50) hx hb dX6_best_125 (by decide) ?_
                          exact ihi (ja - (jb + 1)) (by omega) cA cB (jb + 1) (by rw [← hst, ← hi, show ja - jb = (ja - (jb + 1)) + 1 by omega, zI_s]) (by omega) rfl H locs ls hP hS (lv_sub hl [0, 2, 3, 4, 5, 6, 7, 8] rfl)
                        · skip
                          exact absurd (by decide) c_18
                      · skip
                        replace c_17 := Int32.not_lt.mp c_17
                        have hw1 := c_17
                        refine lv_bipush (v := 24) hx hb dX6_best_66 (by decide) ?_
                        refine lv_iload hx hb dX6_best_68 (lv_at hl 0 rfl) ?_
                        refine lv_isub hx hb dX6_best_70 ?_
                        refine lv_iload_n hx hb dX6_best_71 rfl (lv_at hl 5 rfl) ?_
                        refine lv_bipush (v := 24) hx hb dX6_best_72 (by decide) ?_
                        refine lv_iload hx hb dX6_best_74 (lv_at hl 1 rfl) ?_
                        refine lv_isub hx hb dX6_best_76 ?_
                        refine lv_imul hx hb dX6_best_77 ?_
                        refine lv_icmp_gt (tgt := 85) hx hb dX6_best_78 (by decide) (fun c_19 => ?_) (fun c_19 => ?_)
                        · skip
                          replace c_19 := Int32.not_le.mpr c_19
                          have hn2 := c_19
                          refine lv_iconst (v := 0) hx hb dX6_best_85 (by decide) ?_
                          refine lv_istore (lv' := [(8, .int 0), (7, .int (nI jb)), (6, .int (nI ja)), (5, .int cB), (4, .int cA), (0, .ref (q 0)), (1, .int v), (2, .int n), (3, .int w)]) hx hb dX6_best_86 hl (by decide) rfl (fun ls hl => ?_)
                          refine lv_iload hx hb dX6_best_88 (lv_at hl 0 rfl) ?_
                          refine lv_if_eq (tgt := 122) hx hb dX6_best_90 (by decide) (fun c_20 => ?_) (fun c_20 => ?_)
                          · skip
                            have hst : zst v n (nI ja) (nI jb) (cA, cB) = (cA, cB) := zst_n (fun h => hn2 h.1.2)
                            refine lv_iinc (v := nI (jb + 1)) (lv' := [(7, .int (nI (jb + 1))), (8, .int 0), (6, .int (nI ja)), (5, .int cB), (4, .int cA), (0, .ref (q 0)), (1, .int v), (2, .int n), (3, .int w)]) hx hb dX6_best_122 hl (k := 1) rfl (nI_1 jb) (by decide) rfl (fun ls hl => ?_)
                            refine lv_goto (tgt := 50) hx hb dX6_best_125 (by decide) ?_
                            exact ihi (ja - (jb + 1)) (by omega) cA cB (jb + 1) (by rw [← hst, ← hi, show ja - jb = (ja - (jb + 1)) + 1 by omega, zI_s]) (by omega) rfl H locs ls hP hS (lv_sub hl [0, 2, 3, 4, 5, 6, 7, 8] rfl)
                          · skip
                            exact absurd (by decide) c_20
                        · skip
                          replace c_19 := Int32.not_lt.mp c_19
                          have hw2 := c_19
                          refine lv_iconst (v := 1) hx hb dX6_best_81 (by decide) ?_
                          refine lv_goto (tgt := 86) hx hb dX6_best_82 (by decide) ?_
                          refine lv_istore (lv' := [(8, .int 1), (7, .int (nI jb)), (6, .int (nI ja)), (5, .int cB), (4, .int cA), (0, .ref (q 0)), (1, .int v), (2, .int n), (3, .int w)]) hx hb dX6_best_86 hl (by decide) rfl (fun ls hl => ?_)
                          refine lv_iload hx hb dX6_best_88 (lv_at hl 0 rfl) ?_
                          refine lv_if_eq (tgt := 122) hx hb dX6_best_90 (by decide) (fun c_21 => ?_) (fun c_21 => ?_)
                          · skip
                            exact absurd c_21 (by decide)
                          · skip
                            refine lv_iload hx hb dX6_best_93 (lv_at hl 4 rfl) ?_
                            refine lv_iconst (v := (-1)) hx hb dX6_best_95 (by decide) ?_
                            refine lv_icmp_eq (tgt := 114) hx hb dX6_best_96 (by decide) (fun c_22 => ?_) (fun c_22 => ?_)
                            · skip
                              have ha1 := c_22
                              refine lv_iload hx hb dX6_best_114 (lv_at hl 2 rfl) ?_
                              refine lv_istore (lv' := [(4, .int (nI ja)), (8, .int 1), (7, .int (nI jb)), (6, .int (nI ja)), (5, .int cB), (0, .ref (q 0)), (1, .int v), (2, .int n), (3, .int w)]) hx hb dX6_best_116 hl (by decide) rfl (fun ls hl => ?_)
                              refine lv_iload hx hb dX6_best_118 (lv_at hl 2 rfl) ?_
                              refine lv_istore (lv' := [(5, .int (nI jb)), (4, .int (nI ja)), (8, .int 1), (7, .int (nI jb)), (6, .int (nI ja)), (0, .ref (q 0)), (1, .int v), (2, .int n), (3, .int w)]) hx hb dX6_best_120 hl (by decide) rfl (fun ls hl => ?_)
                              have hst : zst v n (nI ja) (nI jb) (cA, cB) = ((nI ja), (nI jb)) := zst_p ⟨⟨hw1, hw2⟩, Or.inl ha1⟩
                              refine lv_iinc (v := nI (jb + 1)) (lv' := [(7, .int (nI (jb + 1))), (5, .int (nI jb)), (4, .int (nI ja)), (8, .int 1), (6, .int (nI ja)), (0, .ref (q 0)), (1, .int v), (2, .int n), (3, .int w)]) hx hb dX6_best_122 hl (k := 3) rfl (nI_1 jb) (by decide) rfl (fun ls hl => ?_)
                              refine lv_goto (tgt := 50) hx hb dX6_best_125 (by decide) ?_
                              exact ihi (ja - (jb + 1)) (by omega) (nI ja) (nI jb) (jb + 1) (by rw [← hst, ← hi, show ja - jb = (ja - (jb + 1)) + 1 by omega, zI_s]) (by omega) rfl H locs ls hP hS (lv_sub hl [0, 4, 1, 2, 5, 6, 7, 8] rfl)
                            · skip
                              have ha0 := c_22
                              refine lv_iload hx hb dX6_best_99 (lv_at hl 2 rfl) ?_
                              refine lv_iload hx hb dX6_best_101 (lv_at hl 1 rfl) ?_
                              refine lv_iload hx hb dX6_best_103 (lv_at hl 4 rfl) ?_
                              refine lv_iload hx hb dX6_best_105 (lv_at hl 3 rfl) ?_
                              refine lv_iload_n hx hb dX6_best_107 rfl (lv_at hl 7 rfl) ?_
                              refine zc0_i (w := (zX k q 0 (-1) 12 100 0 (fun _ => 0) aps 0 ar1 ar2 ar3 ar4 ar5 ar6 ar7 ph pp py wy fa fb cm0 ia0 0 0 ih0 in0 il0 tx0 sh0 cm1 ia1 0 0 ih1 in1 il1 tx1 sh1 cm2 ia2 0 0 ih2 in2 il2 tx2 sh2 cm3 ia3 0 0 ih3 in3 il3 tx3 sh3 (-1) 0 it0 (-1) 0 it1 (-1) 0 it2 (-1) 0 it3)) (va_runS (As := [.int (nI ja), .int (nI jb), .int cA, .int cB, .int n]) (rest := []) ⟨hx, hb, hml, hown, hts⟩ (c_X6_scattersLess l dC dI k (zTX k) (nI ja) (nI jb) cA cB n _ ) (va_cwS 5 hts (gzS wmt3_58 wmt3_59 wmt1_1 wmt3_60) rfl rfl rfl (by decide +kernel) ⟨Nat.le_of_ble_eq_true rfl, Nat.le_of_ble_eq_true rfl⟩) (zp0_S hK) rfl rfl hl.1 rfl (lv_room (Nat.le_of_ble_eq_true rfl)) dX6_best_108 ⟨Nat.le_of_ble_eq_true rfl, Nat.le_of_ble_eq_true rfl⟩) hP hS hA (fun r_23 u_24 H locs w_25 hP hS => ?_)
                              rcases w_25 with ⟨e_27, h_26⟩ | ⟨e_29, h_28⟩
                              · skip
                                replace e_27 : r_23 = 1 := e_27
                                subst e_27
                                replace h_26 : ¬ zsp n cA cB * zsq (nI ja) (nI jb) ≤ zsp n (nI ja) (nI jb) * zsq cA cB := h_26
                                have hs1 := h_26
                                refine lv_if_eq (tgt := 122) hx hb dX6_best_111 (by decide) (fun c_30 => ?_) (fun c_30 => ?_)
                                · skip
                                  exact absurd c_30 (by decide)
                                · skip
                                  refine lv_iload hx hb dX6_best_114 (lv_at hl 2 rfl) ?_
                                  refine lv_istore (lv' := [(4, .int (nI ja)), (8, .int 1), (7, .int (nI jb)), (6, .int (nI ja)), (5, .int cB), (0, .ref (q 0)), (1, .int v), (2, .int n), (3, .int w)]) hx hb dX6_best_116 hl (by decide) rfl (fun ls hl => ?_)
                                  refine lv_iload hx hb dX6_best_118 (lv_at hl 2 rfl) ?_
                                  refine lv_istore (lv' := [(5, .int (nI jb)), (4, .int (nI ja)), (8, .int 1), (7, .int (nI jb)), (6, .int (nI ja)), (0, .ref (q 0)), (1, .int v), (2, .int n), (3, .int w)]) hx hb dX6_best_120 hl (by decide) rfl (fun ls hl => ?_)
                                  have hst : zst v n (nI ja) (nI jb) (cA, cB) = ((nI ja), (nI jb)) := zst_p ⟨⟨hw1, hw2⟩, Or.inr hs1⟩
                                  refine lv_iinc (v := nI (jb + 1)) (lv' := [(7, .int (nI (jb + 1))), (5, .int (nI jb)), (4, .int (nI ja)), (8, .int 1), (6, .int (nI ja)), (0, .ref (q 0)), (1, .int v), (2, .int n), (3, .int w)]) hx hb dX6_best_122 hl (k := 3) rfl (nI_1 jb) (by decide) rfl (fun ls hl => ?_)
                                  refine lv_goto (tgt := 50) hx hb dX6_best_125 (by decide) ?_
                                  exact ihi (ja - (jb + 1)) (by omega) (nI ja) (nI jb) (jb + 1) (by rw [← hst, ← hi, show ja - jb = (ja - (jb + 1)) + 1 by omega, zI_s]) (by omega) rfl H locs ls hP hS (lv_sub hl [0, 4, 1, 2, 5, 6, 7, 8] rfl)
                              · skip
                                replace e_29 : r_23 = 0 := e_29
                                subst e_29
                                replace h_28 : zsp n cA cB * zsq (nI ja) (nI jb) ≤ zsp n (nI ja) (nI jb) * zsq cA cB := h_28
                                have hs0 := h_28
                                refine lv_if_eq (tgt := 122) hx hb dX6_best_111 (by decide) (fun c_31 => ?_) (fun c_31 => ?_)
                                · skip
                                  have hst : zst v n (nI ja) (nI jb) (cA, cB) = (cA, cB) := zst_n (fun h => h.2.elim ha0 (fun q => q hs0))
                                  refine lv_iinc (v := nI (jb + 1)) (lv' := [(7, .int (nI (jb + 1))), (8, .int 1), (6, .int (nI ja)), (5, .int cB), (4, .int cA), (0, .ref (q 0)), (1, .int v), (2, .int n), (3, .int w)]) hx hb dX6_best_122 hl (k := 1) rfl (nI_1 jb) (by decide) rfl (fun ls hl => ?_)
                                  refine lv_goto (tgt := 50) hx hb dX6_best_125 (by decide) ?_
                                  exact ihi (ja - (jb + 1)) (by omega) cA cB (jb + 1) (by rw [← hst, ← hi, show ja - jb = (ja - (jb + 1)) + 1 by omega, zI_s]) (by omega) rfl H locs ls hP hS (lv_sub hl [0, 2, 3, 4, 5, 6, 7, 8] rfl)
                                · skip
                                  exact absurd (by decide) c_31
            · skip
              exact absurd c_12 (by decide)
          · skip
            replace e_11 : r_5 = 0 := e_11
            subst e_11
            replace h_10 : ¬ (0 ≤ (w : Int32) ∧ (w : Int32) ≤ 1) := h_10
            refine lv_if_ne (tgt := 31) hx hb dX6_best_25 (by decide) (fun c_32 => ?_) (fun c_32 => ?_)
            · skip
              exact absurd c_32 (by decide)
            · skip
              refine lv_bipush (v := (-2)) hx hb dX6_best_28 (by decide) ?_
              exact W.iret (v := (-2)) hx hb hr (fun t ht hW => ⟨⟨(-2), (), rfl, (by first | assumption | with_reducible rfl | contradiction | exact (if_pos (by repeat' (first | assumption | decide | constructor))).symm | exact (if_neg (fun hh => absurd hh (by assumption))).symm | exact (if_neg (fun hh => absurd hh.1 (by assumption))).symm | exact (if_neg (fun hh => absurd hh.1.1 (by assumption))).symm | exact (if_neg (fun hh => absurd hh.1.2 (by assumption))).symm | exact (if_neg (fun hh => absurd hh.2 (by assumption))).symm | exact (if_neg (fun hh => absurd hh.2.1 (by assumption))).symm | exact (if_neg (fun hh => absurd hh.2.1.1 (by assumption))).symm | exact (if_neg (fun hh => absurd hh.2.1.2 (by assumption))).symm | exact (if_neg (fun hh => absurd hh.2.2 (by assumption))).symm | exact (if_neg (fun hh => absurd hh.2.2.1 (by assumption))).symm | exact (if_neg (fun hh => absurd hh.2.2.2 (by assumption))).symm | decide | (exfalso; simp only [zi_le, zi_lt, zi_eq, zi_n0, zi_n1, zi_n2, zi_n3, zi_n4, zi_n23, zi_n24, zi_n100, zi_n399, zi_n60, zi_n255, zi_n99, zi_nm1, zi_n30] at *; omega) | (simp_all; done)), ⟨by rw [ht]; exact hP, hD⟩⟩, hS.F ht⟩) hS.2.2 dX6_best_30
set_option maxHeartbeats 4000000 in
set_option maxRecDepth 100000 in
theorem c_X7_best (l : Launch) (dC : Nat → ClassId) (dI : Nat → Nat → Nat) (k : Nat → ClassId) (T : List (ClassId × FieldType)) (q : Nat → Nat) (j0 : Int64) (j1 : Int64) (r4 : Nat → Int32) (r6 : Nat → Int32) (i12 : Int32) (i13 : Int32) (i14 : Int32) (i15 : Int32) (i28 : Int32) (i29 : Int32) (j30 : Int64) (j31 : Int64) (j32 : Int64) (i33 : Int32) (r34 : Nat → Int32) (r40 : Nat → Int32) (i41 : Int32) (v : Int32) (n : Int32) (w : Int32) (sz : Nat)  : Met l yX7_best (wz yX7_best cX7_best 19 (some .int)) ({ frames := 1, cells := 0, slots := 0, locals := 22 }) (va_Pc [.ref (q 0), .int v, .int n, .int w] (zPre dC dI k T (zM k q j0 j1 (fun _ => 0) (fun _ => 0) r4 (fun _ => 0) r6 (fun _ => 0) (fun _ => 0) (fun _ => 0) (fun _ => 0) 12 i12 i13 i14 i15 (fun _ => 0) (fun _ => 0) (fun _ => 0) 0 (-1) (fun _ => 0) 0 (fun _ => 0) (fun _ => 0) (fun _ => 0) (fun _ => 0) (fun _ => 0) i28 i29 j30 j31 j32 i33 r34 100 (fun _ => 0) (fun _ => 0) (fun _ => 0) (fun _ => 0) r40 i41) sz)) (va_Qi (fun (r : Int32) (u : Unit) => (r = if (2 ≤ v ∧ v ≤ 30) ∧ (0 ≤ n ∧ n ≤ 100) ∧ (0 ≤ (w : Int32) ∧ (w : Int32) ≤ 1) then zBr v n w else (-2))) (fun u t => zPost dC dI (va_A (zM k q j0 j1 (fun _ => 0) (fun _ => 0) r4 (fun _ => 0) r6 (fun _ => 0) (fun _ => 0) (fun _ => 0) (fun _ => 0) 12 i12 i13 i14 i15 (fun _ => 0) (fun _ => 0) (fun _ => 0) 0 (-1) (fun _ => 0) 0 (fun _ => 0) (fun _ => 0) (fun _ => 0) (fun _ => 0) (fun _ => 0) i28 i29 j30 j31 j32 i33 r34 100 (fun _ => 0) (fun _ => 0) (fun _ => 0) (fun _ => 0) r40 i41) sz) (zM k q j0 j1 (fun _ => 0) (fun _ => 0) r4 (fun _ => 0) r6 (fun _ => 0) (fun _ => 0) (fun _ => 0) (fun _ => 0) 12 i12 i13 i14 i15 (fun _ => 0) (fun _ => 0) (fun _ => 0) 0 (-1) (fun _ => 0) 0 (fun _ => 0) (fun _ => 0) (fun _ => 0) (fun _ => 0) (fun _ => 0) i28 i29 j30 j31 j32 i33 r34 100 (fun _ => 0) (fun _ => 0) (fun _ => 0) (fun _ => 0) r40 i41) t) (va_A (zM k q j0 j1 (fun _ => 0) (fun _ => 0) r4 (fun _ => 0) r6 (fun _ => 0) (fun _ => 0) (fun _ => 0) (fun _ => 0) 12 i12 i13 i14 i15 (fun _ => 0) (fun _ => 0) (fun _ => 0) 0 (-1) (fun _ => 0) 0 (fun _ => 0) (fun _ => 0) (fun _ => 0) (fun _ => 0) (fun _ => 0) i28 i29 j30 j31 j32 i33 r34 100 (fun _ => 0) (fun _ => 0) (fun _ => 0) (fun _ => 0) r40 i41) sz)) 0 0 (va_A (zM k q j0 j1 (fun _ => 0) (fun _ => 0) r4 (fun _ => 0) r6 (fun _ => 0) (fun _ => 0) (fun _ => 0) (fun _ => 0) 12 i12 i13 i14 i15 (fun _ => 0) (fun _ => 0) (fun _ => 0) 0 (-1) (fun _ => 0) 0 (fun _ => 0) (fun _ => 0) (fun _ => 0) (fun _ => 0) (fun _ => 0) i28 i29 j30 j31 j32 i33 r34 100 (fun _ => 0) (fun _ => 0) (fun _ => 0) (fun _ => 0) r40 i41) sz) := by
  refine Met.ofW (cc := cX7_best) (maxL := 19) (ret := (some .int)) (by decide) rfl ?_
  intro p e s m args below meth c s₁ B hml hv
  obtain ⟨rfl, hsz, hP, hK, hD0⟩ := hv
  have hx := B.exec
  have hb := B.bytes
  have hr := B.returns
  have hts : ∀ w ∈ zw, w.before _ s = true := fun w h => atoms_spec (ws := (wz yX7_best cX7_best 19 (some .int))) B.pre w (List.mem_cons_of_mem _ h)
  have hown : s.vm.findClass RX7 = some m.cls := findClass_of_methodNamed B.named
  have hlocks := B.notSynchronized
  subst hsz
  have hD := hD0.self (sz := s.heap.size)
  generalize hAe : va_A (zM k q j0 j1 (fun _ => 0) (fun _ => 0) r4 (fun _ => 0) r6 (fun _ => 0) (fun _ => 0) (fun _ => 0) (fun _ => 0) 12 i12 i13 i14 i15 (fun _ => 0) (fun _ => 0) (fun _ => 0) 0 (-1) (fun _ => 0) 0 (fun _ => 0) (fun _ => 0) (fun _ => 0) (fun _ => 0) (fun _ => 0) i28 i29 j30 j31 j32 i33 r34 100 (fun _ => 0) (fun _ => 0) (fun _ => 0) (fun _ => 0) r40 i41) s.heap.size = A at hD ⊢
  have hA : ∀ q : Nat, s.heap.size ≤ q → A q := fun q h => by rw [← hAe]; exact Or.inr h
  have hl := lv_entry ([.ref (q 0), .int v, .int n, .int w]) (n := 19) (Nat.le_of_ble_eq_true rfl)
  rw [lg_entry_eq]
  generalize (lg_sl ([.ref (q 0), .int v, .int n, .int w]) ++ List.replicate (19 - (lg_sl ([.ref (q 0), .int v, .int n, .int w])).length) Slot.unset).toArray = ls at hl ⊢
  have hl : lv_has ls 19 [(0, .ref (q 0)), (1, .int v), (2, .int n), (3, .int w)] := hl
  refine z_start (w := (zM k q j0 j1 (fun _ => 0) (fun _ => 0) r4 (fun _ => 0) r6 (fun _ => 0) (fun _ => 0) (fun _ => 0) (fun _ => 0) 12 i12 i13 i14 i15 (fun _ => 0) (fun _ => 0) (fun _ => 0) 0 (-1) (fun _ => 0) 0 (fun _ => 0) (fun _ => 0) (fun _ => 0) (fun _ => 0) (fun _ => 0) i28 i29 j30 j31 j32 i33 r34 100 (fun _ => 0) (fun _ => 0) (fun _ => 0) (fun _ => 0) r40 i41)) hP hD (fun H locs hP hD hS => ?_)
  refine lv_iload_n hx hb dX7_best_0 rfl (lv_at hl 1 rfl) ?_
  refine lv_iconst (v := 2) hx hb dX7_best_1 (by decide) ?_
  refine lv_bipush (v := 30) hx hb dX7_best_2 (by decide) ?_
  refine zc0_i (w := (zM k q j0 j1 (fun _ => 0) (fun _ => 0) r4 (fun _ => 0) r6 (fun _ => 0) (fun _ => 0) (fun _ => 0) (fun _ => 0) 12 i12 i13 i14 i15 (fun _ => 0) (fun _ => 0) (fun _ => 0) 0 (-1) (fun _ => 0) 0 (fun _ => 0) (fun _ => 0) (fun _ => 0) (fun _ => 0) (fun _ => 0) i28 i29 j30 j31 j32 i33 r34 100 (fun _ => 0) (fun _ => 0) (fun _ => 0) (fun _ => 0) r40 i41)) (va_runS (As := [.int v, .int 2, .int 30]) (rest := []) ⟨hx, hb, hml, hown, hts⟩ (c_X7_in l dC dI k T v 2 30 _ ) (va_cwS 3 hts (gzS wmt4_62 wmt4_63 wmt1_8 wmt4_64) rfl rfl rfl (by decide +kernel) ⟨Nat.le_of_ble_eq_true rfl, Nat.le_of_ble_eq_true rfl⟩) (zp0_S hK) rfl rfl hl.1 rfl (lv_room (Nat.le_of_ble_eq_true rfl)) dX7_best_4 ⟨Nat.le_of_ble_eq_true rfl, Nat.le_of_ble_eq_true rfl⟩) hP hS hA (fun r_1 u_2 H locs w_3 hP hS => ?_)
  rcases w_3 with ⟨e_5, h_4⟩ | ⟨e_7, h_6⟩
  · skip
    replace e_5 : r_1 = 1 := e_5
    subst e_5
    replace h_4 : 2 ≤ v ∧ v ≤ 30 := h_4
    refine lv_if_eq (tgt := 29) hx hb dX7_best_7 (by decide) (fun c_8 => ?_) (fun c_8 => ?_)
    · skip
      exact absurd c_8 (by decide)
    · skip
      refine lv_iload_n hx hb dX7_best_10 rfl (lv_at hl 2 rfl) ?_
      refine lv_iconst (v := 0) hx hb dX7_best_11 (by decide) ?_
      refine lv_bipush (v := 100) hx hb dX7_best_12 (by decide) ?_
      refine zc0_i (w := (zM k q j0 j1 (fun _ => 0) (fun _ => 0) r4 (fun _ => 0) r6 (fun _ => 0) (fun _ => 0) (fun _ => 0) (fun _ => 0) 12 i12 i13 i14 i15 (fun _ => 0) (fun _ => 0) (fun _ => 0) 0 (-1) (fun _ => 0) 0 (fun _ => 0) (fun _ => 0) (fun _ => 0) (fun _ => 0) (fun _ => 0) i28 i29 j30 j31 j32 i33 r34 100 (fun _ => 0) (fun _ => 0) (fun _ => 0) (fun _ => 0) r40 i41)) (va_runS (As := [.int n, .int 0, .int 100]) (rest := []) ⟨hx, hb, hml, hown, hts⟩ (c_X7_in l dC dI k T n 0 100 _ ) (va_cwS 3 hts (gzS wmt4_62 wmt4_63 wmt1_8 wmt4_64) rfl rfl rfl (by decide +kernel) ⟨Nat.le_of_ble_eq_true rfl, Nat.le_of_ble_eq_true rfl⟩) (zp0_S hK) rfl rfl hl.1 rfl (lv_room (Nat.le_of_ble_eq_true rfl)) dX7_best_14 ⟨Nat.le_of_ble_eq_true rfl, Nat.le_of_ble_eq_true rfl⟩) hP hS hA (fun r_9 u_10 H locs w_11 hP hS => ?_)
      rcases w_11 with ⟨e_13, h_12⟩ | ⟨e_15, h_14⟩
      · skip
        replace e_13 : r_9 = 1 := e_13
        subst e_13
        replace h_12 : 0 ≤ n ∧ n ≤ 100 := h_12
        refine lv_if_eq (tgt := 29) hx hb dX7_best_17 (by decide) (fun c_16 => ?_) (fun c_16 => ?_)
        · skip
          exact absurd c_16 (by decide)
        · skip
          refine lv_iload_n hx hb dX7_best_20 rfl (lv_at hl 3 rfl) ?_
          refine lv_iconst (v := 0) hx hb dX7_best_21 (by decide) ?_
          refine lv_iconst (v := 1) hx hb dX7_best_22 (by decide) ?_
          refine zc0_i (w := (zM k q j0 j1 (fun _ => 0) (fun _ => 0) r4 (fun _ => 0) r6 (fun _ => 0) (fun _ => 0) (fun _ => 0) (fun _ => 0) 12 i12 i13 i14 i15 (fun _ => 0) (fun _ => 0) (fun _ => 0) 0 (-1) (fun _ => 0) 0 (fun _ => 0) (fun _ => 0) (fun _ => 0) (fun _ => 0) (fun _ => 0) i28 i29 j30 j31 j32 i33 r34 100 (fun _ => 0) (fun _ => 0) (fun _ => 0) (fun _ => 0) r40 i41)) (va_runS (As := [.int w, .int 0, .int 1]) (rest := []) ⟨hx, hb, hml, hown, hts⟩ (c_X7_in l dC dI k T w 0 1 _ ) (va_cwS 3 hts (gzS wmt4_62 wmt4_63 wmt1_8 wmt4_64) rfl rfl rfl (by decide +kernel) ⟨Nat.le_of_ble_eq_true rfl, Nat.le_of_ble_eq_true rfl⟩) (zp0_S hK) rfl rfl hl.1 rfl (lv_room (Nat.le_of_ble_eq_true rfl)) dX7_best_23 ⟨Nat.le_of_ble_eq_true rfl, Nat.le_of_ble_eq_true rfl⟩) hP hS hA (fun r_17 u_18 H locs w_19 hP hS => ?_)
          rcases w_19 with ⟨e_21, h_20⟩ | ⟨e_23, h_22⟩
          · skip
            replace e_21 : r_17 = 1 := e_21
            subst e_21
            replace h_20 : 0 ≤ w ∧ w ≤ 1 := h_20
            refine lv_if_ne (tgt := 32) hx hb dX7_best_26 (by decide) (fun c_24 => ?_) (fun c_24 => ?_)
            · skip
              obtain ⟨jn, hjn, hn⟩ : ∃ j : Nat, j ≤ 100 ∧ n = nI j := z_of100 (And.left (a := 0 ≤ n) (b := n ≤ 100) (by assumption)) (And.right (a := 0 ≤ n) (b := n ≤ 100) (by assumption))
              refine lv_iconst (v := (-1)) hx hb dX7_best_32 (by decide) ?_
              refine lv_istore (lv' := [(4, .int (-1)), (0, .ref (q 0)), (1, .int v), (2, .int n), (3, .int w)]) hx hb dX7_best_33 hl (by decide) rfl (fun ls hl => ?_)
              refine lv_iconst (v := (-1)) hx hb dX7_best_35 (by decide) ?_
              refine lv_istore (lv' := [(5, .int (-1)), (4, .int (-1)), (0, .ref (q 0)), (1, .int v), (2, .int n), (3, .int w)]) hx hb dX7_best_36 hl (by decide) rfl (fun ls hl => ?_)
              refine lv_lconst (v := 0) hx hb dX7_best_38 (by decide) ?_
              refine lv_lstore (lv' := [(6, .long 0), (5, .int (-1)), (4, .int (-1)), (0, .ref (q 0)), (1, .int v), (2, .int n), (3, .int w)]) hx hb dX7_best_39 hl (by decide) rfl (fun ls hl => ?_)
              refine lv_iconst (v := 2) hx hb dX7_best_41 (by decide) ?_
              refine lv_istore (lv' := [(8, .int 2), (6, .long 0), (5, .int (-1)), (4, .int (-1)), (0, .ref (q 0)), (1, .int v), (2, .int n), (3, .int w)]) hx hb dX7_best_42 hl (by decide) rfl (fun ls hl => ?_)
              have hrg : (2 ≤ v ∧ v ≤ 30) ∧ (0 ≤ n ∧ n ≤ 100) ∧ (0 ≤ (w : Int32) ∧ (w : Int32) ≤ 1) := ⟨by assumption, by assumption, by assumption⟩
              obtain ⟨ja, eja⟩ : ∃ ja : Nat, ja = 2 := ⟨_, rfl⟩
              obtain ⟨bA, eA⟩ : ∃ x : Int32, x = -1 := ⟨_, rfl⟩
              obtain ⟨bB, eB⟩ : ∃ x : Int32, x = -1 := ⟨_, rfl⟩
              obtain ⟨le, ele⟩ : ∃ x : Int64, x = 0 := ⟨_, rfl⟩
              have ho : zO v n ja (24 - ja) (bA, bB) = zR v n := by rw [eja, eA, eB, zR, show (24 - 2 : Nat) = 22 from rfl]
              have hja : 2 ≤ ja ∧ ja ≤ 24 := by omega
              have hinv : bA = -1 ∨ (le = zsp n bA bB ∧ ∃ x y : Nat, x < 24 ∧ y < 24 ∧ bA = nI x ∧ bB = nI y) := Or.inl eA
              replace hl : lv_has ls 19 [(8, .int (nI ja)), (6, .long le), (5, .int bB), (4, .int bA), (0, .ref (q 0)), (1, .int v), (2, .int n), (3, .int w)] := by rw [eja, eA, eB, ele]; exact hl
              obtain ⟨mo, hmo⟩ : ∃ mo : Nat, mo = 24 - ja := ⟨_, rfl⟩
              clear eja eA eB ele
              refine z_cut hP hD hS hl ?_
              clear hl
              intro H locs ls hP hD hS hl
              induction mo using Nat.strongRecOn generalizing ja bA bB le H locs ls with
              | _ mo iho =>
                refine lv_iload hx hb dX7_best_44 (lv_at hl 0 rfl) ?_
                refine lv_bipush (v := 24) hx hb dX7_best_46 (by decide) ?_
                refine lv_icmp_ge (tgt := 195) hx hb dX7_best_48 (by decide) (fun c_25 => ?_) (fun c_25 => ?_)
                · skip
                  have c_25' : ¬ (nI ja) ≤ 23 := (z_ge_pred (by decide)).mp c_25
                  have hres : (bA, bB) = zR v n := by have e8 : 24 ≤ ja := (nI_leI (a := 24) (by decide) (by omega)).mp c_25; rw [show 24 - ja = 0 by omega, zO_0] at ho; exact ho
                  refine lv_iload hx hb dX7_best_195 (lv_at hl 3 rfl) ?_
                  refine lv_iconst (v := (-1)) hx hb dX7_best_197 (by decide) ?_
                  refine lv_icmp_ne (tgt := 206) hx hb dX7_best_198 (by decide) (fun c_26 => ?_) (fun c_26 => ?_)
                  · skip
                    have he0 := c_26
                    refine lv_iload_n hx hb dX7_best_206 rfl (lv_at hl 7 rfl) ?_
                    refine lv_if_ne (tgt := 215) hx hb dX7_best_207 (by decide) (fun c_27 => ?_) (fun c_27 => ?_)
                    · skip
                      have hwn := c_27
                      refine lv_iload hx hb dX7_best_215 (lv_at hl 2 rfl) ?_
                      exact W.iret (v := bB) hx hb hr (fun t ht hW => ⟨⟨bB, (), rfl, (by rw [if_pos hrg, zBr, ← hres]; exact ((if_neg he0).trans (if_neg hwn)).symm), ⟨by rw [ht]; exact hP, hD⟩⟩, hS.F ht⟩) hS.2.2 dX7_best_217
                    · skip
                      have hw0 := c_27
                      refine lv_iload hx hb dX7_best_210 (lv_at hl 3 rfl) ?_
                      refine lv_goto (tgt := 217) hx hb dX7_best_212 (by decide) ?_
                      exact W.iret (v := bA) hx hb hr (fun t ht hW => ⟨⟨bA, (), rfl, (by rw [if_pos hrg, zBr, ← hres]; exact ((if_neg he0).trans (if_pos hw0)).symm), ⟨by rw [ht]; exact hP, hD⟩⟩, hS.F ht⟩) hS.2.2 dX7_best_217
                  · skip
                    have he1 := c_26
                    refine lv_bipush (v := (-3)) hx hb dX7_best_201 (by decide) ?_
                    refine lv_goto (tgt := 217) hx hb dX7_best_203 (by decide) ?_
                    exact W.iret (v := (-3)) hx hb hr (fun t ht hW => ⟨⟨(-3), (), rfl, (by rw [if_pos hrg, zBr, ← hres]; exact (if_pos he1).symm), ⟨by rw [ht]; exact hP, hD⟩⟩, hS.F ht⟩) hS.2.2 dX7_best_217
                · skip
                  have c_25' : (nI ja) ≤ 23 := Decidable.not_not.mp (fun h => c_25 ((z_ge_pred (by decide)).mpr h))
                  have hja2 : ja < 24 := Nat.lt_of_not_le (fun q => c_25 (nI_le (a := 24) q (by omega)))
                  refine lv_iconst (v := 1) hx hb dX7_best_51 (by decide) ?_
                  refine lv_istore (lv' := [(9, .int 1), (8, .int (nI ja)), (6, .long le), (5, .int bB), (4, .int bA), (0, .ref (q 0)), (1, .int v), (2, .int n), (3, .int w)]) hx hb dX7_best_52 hl (by decide) rfl (fun ls hl => ?_)
                  obtain ⟨cA, ecA⟩ : ∃ x : Int32, x = bA := ⟨_, rfl⟩
                  obtain ⟨cB, ecB⟩ : ∃ x : Int32, x = bB := ⟨_, rfl⟩
                  obtain ⟨ce, ece⟩ : ∃ x : Int64, x = le := ⟨_, rfl⟩
                  have hinvc : cA = -1 ∨ (ce = zsp n cA cB ∧ ∃ x y : Nat, x < 24 ∧ y < 24 ∧ cA = nI x ∧ cB = nI y) := by rw [ecA, ecB, ece]; exact hinv
                  obtain ⟨jb, ejb⟩ : ∃ jb : Nat, jb = 1 := ⟨_, rfl⟩
                  have hi : zO v n (ja + 1) (23 - ja) (zI v n ja jb (ja - jb) (cA, cB)) = zR v n := by rw [ejb, ecA, ecB, ← ho, show 24 - ja = (23 - ja) + 1 by omega, zO_s]
                  have hjb : 1 ≤ jb ∧ jb ≤ ja := by omega
                  replace hl : lv_has ls 19 [(9, .int (nI jb)), (8, .int (nI ja)), (6, .long ce), (5, .int cB), (4, .int cA), (0, .ref (q 0)), (1, .int v), (2, .int n), (3, .int w)] := by rw [ejb, ecA, ecB, ece]; exact lv_sub hl [0, 1, 2, 3, 4, 5, 6, 7, 8] rfl
                  obtain ⟨mi, hmi⟩ : ∃ mi : Nat, mi = ja - jb := ⟨_, rfl⟩
                  clear ejb ecA ecB ece
                  refine z_cut hP hD hS hl ?_
                  clear hl
                  intro H locs ls hP hD hS hl
                  induction mi using Nat.strongRecOn generalizing cA cB ce jb H locs ls with
                  | _ mi ihi =>
                    refine lv_iload hx hb dX7_best_54 (lv_at hl 0 rfl) ?_
                    refine lv_iload hx hb dX7_best_56 (lv_at hl 1 rfl) ?_
                    refine lv_icmp_ge (tgt := 189) hx hb dX7_best_58 (by decide) (fun c_28 => ?_) (fun c_28 => ?_)
                    · skip
                      have hab : ja ≤ jb := (nI_leI (by omega) (by omega)).mp c_28
                      refine lv_iinc (v := nI (ja + 1)) (lv' := [(8, .int (nI (ja + 1))), (9, .int (nI jb)), (6, .long ce), (5, .int cB), (4, .int cA), (0, .ref (q 0)), (1, .int v), (2, .int n), (3, .int w)]) hx hb dX7_best_189 hl (k := 1) rfl (nI_1 ja) (by decide) rfl (fun ls hl => ?_)
                      refine lv_goto (tgt := 44) hx hb dX7_best_192 (by decide) ?_
                      exact iho (24 - (ja + 1)) (by omega) (ja + 1) cA cB ce (by rw [show ja - jb = 0 by omega, zI_0] at hi; rw [show 24 - (ja + 1) = 23 - ja by omega]; exact hi) (by omega) hinvc rfl H locs ls hP hS (lv_sub hl [0, 2, 3, 4, 5, 6, 7, 8] rfl)
                    · skip
                      have hlt : jb < ja := Nat.lt_of_not_le (fun q => c_28 (nI_le q (by omega)))
                      refine lv_iload_n hx hb dX7_best_61 rfl (lv_at hl 7 rfl) ?_
                      refine lv_iload hx hb dX7_best_62 (lv_at hl 1 rfl) ?_
                      refine lv_imul hx hb dX7_best_64 ?_
                      refine lv_bipush (v := 100) hx hb dX7_best_65 (by decide) ?_
                      refine lv_iload_n hx hb dX7_best_67 rfl (lv_at hl 7 rfl) ?_
                      refine lv_isub hx hb dX7_best_68 ?_
                      refine lv_iload hx hb dX7_best_69 (lv_at hl 0 rfl) ?_
                      refine lv_imul hx hb dX7_best_71 ?_
                      refine lv_iadd hx hb dX7_best_72 ?_
                      refine lv_i2l (v := ((n * (nI ja)) + ((100 - n) * (nI jb))).toInt64) hx hb dX7_best_73 rfl ?_
                      refine z_top (v2 := .long (n.toInt64 * (nI ja).toInt64 + (100 - n.toInt64) * (nI jb).toInt64)) (congrArg Value.long (by rw [hn]; exact zsp_i hjn (by omega) (by omega))) ?_
                      refine lv_lstore (lv' := [(10, .long (n.toInt64 * (nI ja).toInt64 + (100 - n.toInt64) * (nI jb).toInt64)), (9, .int (nI jb)), (8, .int (nI ja)), (6, .long ce), (5, .int cB), (4, .int cA), (0, .ref (q 0)), (1, .int v), (2, .int n), (3, .int w)]) hx hb dX7_best_74 hl (by decide) rfl (fun ls hl => ?_)
                      refine lv_lload hx hb dX7_best_76 (lv_at hl 0 rfl) ?_
                      refine lv_ldc2 (v := 2400) hx hb hown (hts _ wmt5_81) dX7_best_78 ?_
                      refine lv_lload hx hb dX7_best_81 (lv_at hl 0 rfl) ?_
                      refine lv_lsub hx hb dX7_best_83 ?_
                      refine lv_lmul hx hb dX7_best_84 ?_
                      refine z_top (v2 := .long (zsp n (nI ja) (nI jb))) rfl ?_
                      refine lv_lstore (lv' := [(12, .long (zsp n (nI ja) (nI jb))), (10, .long (n.toInt64 * (nI ja).toInt64 + (100 - n.toInt64) * (nI jb).toInt64)), (9, .int (nI jb)), (8, .int (nI ja)), (6, .long ce), (5, .int cB), (4, .int cA), (0, .ref (q 0)), (1, .int v), (2, .int n), (3, .int w)]) hx hb dX7_best_85 hl (by decide) rfl (fun ls hl => ?_)
                      refine lv_iload hx hb dX7_best_87 (lv_at hl 3 rfl) ?_
                      refine lv_iload_n hx hb dX7_best_89 rfl (lv_at hl 8 rfl) ?_
                      refine lv_iload hx hb dX7_best_90 (lv_at hl 2 rfl) ?_
                      refine lv_imul hx hb dX7_best_92 ?_
                      refine lv_icmp_gt (tgt := 115) hx hb dX7_best_93 (by decide) (fun c_29 => ?_) (fun c_29 => ?_)
                      · skip
                        replace c_29 := Int32.not_le.mpr c_29
                        have hn1 := c_29
                        refine lv_iconst (v := 0) hx hb dX7_best_115 (by decide) ?_
                        refine lv_istore (lv' := [(14, .int 0), (12, .long (zsp n (nI ja) (nI jb))), (10, .long (n.toInt64 * (nI ja).toInt64 + (100 - n.toInt64) * (nI jb).toInt64)), (9, .int (nI jb)), (8, .int (nI ja)), (6, .long ce), (5, .int cB), (4, .int cA), (0, .ref (q 0)), (1, .int v), (2, .int n), (3, .int w)]) hx hb dX7_best_116 hl (by decide) rfl (fun ls hl => ?_)
                        refine lv_iload hx hb dX7_best_118 (lv_at hl 4 rfl) ?_
                        refine lv_iload hx hb dX7_best_120 (lv_at hl 3 rfl) ?_
                        refine lv_isub hx hb dX7_best_122 ?_
                        refine lv_iload hx hb dX7_best_123 (lv_at hl 4 rfl) ?_
                        refine lv_iload hx hb dX7_best_125 (lv_at hl 3 rfl) ?_
                        refine lv_isub hx hb dX7_best_127 ?_
                        refine lv_imul hx hb dX7_best_128 ?_
                        refine lv_i2l (v := (((nI ja) - (nI jb)) * ((nI ja) - (nI jb))).toInt64) hx hb dX7_best_129 rfl ?_
                        refine z_top (v2 := .long (zsq (nI ja) (nI jb))) (congrArg Value.long (zsq_i ja (by omega) jb (by omega))) ?_
                        refine lv_lstore (lv' := [(15, .long (zsq (nI ja) (nI jb))), (14, .int 0), (12, .long (zsp n (nI ja) (nI jb))), (10, .long (n.toInt64 * (nI ja).toInt64 + (100 - n.toInt64) * (nI jb).toInt64)), (9, .int (nI jb)), (8, .int (nI ja)), (6, .long ce), (5, .int cB), (4, .int cA), (0, .ref (q 0)), (1, .int v), (2, .int n), (3, .int w)]) hx hb dX7_best_130 hl (by decide) rfl (fun ls hl => ?_)
                        refine lv_iload hx hb dX7_best_132 (lv_at hl 8 rfl) ?_
                        refine lv_iload hx hb dX7_best_134 (lv_at hl 7 rfl) ?_
                        refine lv_isub hx hb dX7_best_136 ?_
                        refine lv_iload hx hb dX7_best_137 (lv_at hl 8 rfl) ?_
                        refine lv_iload hx hb dX7_best_139 (lv_at hl 7 rfl) ?_
                        refine lv_isub hx hb dX7_best_141 ?_
                        refine lv_imul hx hb dX7_best_142 ?_
                        refine lv_i2l (v := ((cA - cB) * (cA - cB)).toInt64) hx hb dX7_best_143 rfl ?_
                        refine lv_lstore (lv' := [(17, .long (((cA - cB) * (cA - cB)).toInt64)), (15, .long (zsq (nI ja) (nI jb))), (14, .int 0), (12, .long (zsp n (nI ja) (nI jb))), (10, .long (n.toInt64 * (nI ja).toInt64 + (100 - n.toInt64) * (nI jb).toInt64)), (9, .int (nI jb)), (8, .int (nI ja)), (6, .long ce), (5, .int cB), (4, .int cA), (0, .ref (q 0)), (1, .int v), (2, .int n), (3, .int w)]) hx hb dX7_best_144 hl (by decide) rfl (fun ls hl => ?_)
                        refine lv_iload hx hb dX7_best_146 (lv_at hl 2 rfl) ?_
                        refine lv_if_eq (tgt := 183) hx hb dX7_best_148 (by decide) (fun c_30 => ?_) (fun c_30 => ?_)
                        · skip
                          have hst : zst v n (nI ja) (nI jb) (cA, cB) = (cA, cB) := zst_n (fun h => hn1 h.1.1)
                          have hinv2 := hinvc
                          refine lv_iinc (v := nI (jb + 1)) (lv' := [(9, .int (nI (jb + 1))), (17, .long (((cA - cB) * (cA - cB)).toInt64)), (15, .long (zsq (nI ja) (nI jb))), (14, .int 0), (12, .long (zsp n (nI ja) (nI jb))), (10, .long (n.toInt64 * (nI ja).toInt64 + (100 - n.toInt64) * (nI jb).toInt64)), (8, .int (nI ja)), (6, .long ce), (5, .int cB), (4, .int cA), (0, .ref (q 0)), (1, .int v), (2, .int n), (3, .int w)]) hx hb dX7_best_183 hl (k := 5) rfl (nI_1 jb) (by decide) rfl (fun ls hl => ?_)
                          refine lv_goto (tgt := 54) hx hb dX7_best_186 (by decide) ?_
                          exact ihi (ja - (jb + 1)) (by omega) cA cB ce hinv2 (jb + 1) (by rw [← hst, ← hi, show ja - jb = (ja - (jb + 1)) + 1 by omega, zI_s]) (by omega) rfl H locs ls hP hS (lv_sub hl [0, 6, 7, 8, 9, 10, 11, 12, 13] rfl)
                        · skip
                          exact absurd (by decide) c_30
                      · skip
                        replace c_29 := Int32.not_lt.mp c_29
                        have hw1 := c_29
                        refine lv_bipush (v := 24) hx hb dX7_best_96 (by decide) ?_
                        refine lv_iload hx hb dX7_best_98 (lv_at hl 2 rfl) ?_
                        refine lv_isub hx hb dX7_best_100 ?_
                        refine lv_iload_n hx hb dX7_best_101 rfl (lv_at hl 8 rfl) ?_
                        refine lv_bipush (v := 24) hx hb dX7_best_102 (by decide) ?_
                        refine lv_iload hx hb dX7_best_104 (lv_at hl 3 rfl) ?_
                        refine lv_isub hx hb dX7_best_106 ?_
                        refine lv_imul hx hb dX7_best_107 ?_
                        refine lv_icmp_gt (tgt := 115) hx hb dX7_best_108 (by decide) (fun c_31 => ?_) (fun c_31 => ?_)
                        · skip
                          replace c_31 := Int32.not_le.mpr c_31
                          have hn2 := c_31
                          refine lv_iconst (v := 0) hx hb dX7_best_115 (by decide) ?_
                          refine lv_istore (lv' := [(14, .int 0), (12, .long (zsp n (nI ja) (nI jb))), (10, .long (n.toInt64 * (nI ja).toInt64 + (100 - n.toInt64) * (nI jb).toInt64)), (9, .int (nI jb)), (8, .int (nI ja)), (6, .long ce), (5, .int cB), (4, .int cA), (0, .ref (q 0)), (1, .int v), (2, .int n), (3, .int w)]) hx hb dX7_best_116 hl (by decide) rfl (fun ls hl => ?_)
                          refine lv_iload hx hb dX7_best_118 (lv_at hl 4 rfl) ?_
                          refine lv_iload hx hb dX7_best_120 (lv_at hl 3 rfl) ?_
                          refine lv_isub hx hb dX7_best_122 ?_
                          refine lv_iload hx hb dX7_best_123 (lv_at hl 4 rfl) ?_
                          refine lv_iload hx hb dX7_best_125 (lv_at hl 3 rfl) ?_
                          refine lv_isub hx hb dX7_best_127 ?_
                          refine lv_imul hx hb dX7_best_128 ?_
                          refine lv_i2l (v := (((nI ja) - (nI jb)) * ((nI ja) - (nI jb))).toInt64) hx hb dX7_best_129 rfl ?_
                          refine z_top (v2 := .long (zsq (nI ja) (nI jb))) (congrArg Value.long (zsq_i ja (by omega) jb (by omega))) ?_
                          refine lv_lstore (lv' := [(15, .long (zsq (nI ja) (nI jb))), (14, .int 0), (12, .long (zsp n (nI ja) (nI jb))), (10, .long (n.toInt64 * (nI ja).toInt64 + (100 - n.toInt64) * (nI jb).toInt64)), (9, .int (nI jb)), (8, .int (nI ja)), (6, .long ce), (5, .int cB), (4, .int cA), (0, .ref (q 0)), (1, .int v), (2, .int n), (3, .int w)]) hx hb dX7_best_130 hl (by decide) rfl (fun ls hl => ?_)
                          refine lv_iload hx hb dX7_best_132 (lv_at hl 8 rfl) ?_
                          refine lv_iload hx hb dX7_best_134 (lv_at hl 7 rfl) ?_
                          refine lv_isub hx hb dX7_best_136 ?_
                          refine lv_iload hx hb dX7_best_137 (lv_at hl 8 rfl) ?_
                          refine lv_iload hx hb dX7_best_139 (lv_at hl 7 rfl) ?_
                          refine lv_isub hx hb dX7_best_141 ?_
                          refine lv_imul hx hb dX7_best_142 ?_
                          refine lv_i2l (v := ((cA - cB) * (cA - cB)).toInt64) hx hb dX7_best_143 rfl ?_
                          refine lv_lstore (lv' := [(17, .long (((cA - cB) * (cA - cB)).toInt64)), (15, .long (zsq (nI ja) (nI jb))), (14, .int 0), (12, .long (zsp n (nI ja) (nI jb))), (10, .long (n.toInt64 * (nI ja).toInt64 + (100 - n.toInt64) * (nI jb).toInt64)), (9, .int (nI jb)), (8, .int (nI ja)), (6, .long ce), (5, .int cB), (4, .int cA), (0, .ref (q 0)), (1, .int v), (2, .int n), (3, .int w)]) hx hb dX7_best_144 hl (by decide) rfl (fun ls hl => ?_)
                          refine lv_iload hx hb dX7_best_146 (lv_at hl 2 rfl) ?_
                          refine lv_if_eq (tgt := 183) hx hb dX7_best_148 (by decide) (fun c_32 => ?_) (fun c_32 => ?_)
                          · skip
                            have hst : zst v n (nI ja) (nI jb) (cA, cB) = (cA, cB) := zst_n (fun h => hn2 h.1.2)
                            have hinv2 := hinvc
                            refine lv_iinc (v := nI (jb + 1)) (lv' := [(9, .int (nI (jb + 1))), (17, .long (((cA - cB) * (cA - cB)).toInt64)), (15, .long (zsq (nI ja) (nI jb))), (14, .int 0), (12, .long (zsp n (nI ja) (nI jb))), (10, .long (n.toInt64 * (nI ja).toInt64 + (100 - n.toInt64) * (nI jb).toInt64)), (8, .int (nI ja)), (6, .long ce), (5, .int cB), (4, .int cA), (0, .ref (q 0)), (1, .int v), (2, .int n), (3, .int w)]) hx hb dX7_best_183 hl (k := 5) rfl (nI_1 jb) (by decide) rfl (fun ls hl => ?_)
                            refine lv_goto (tgt := 54) hx hb dX7_best_186 (by decide) ?_
                            exact ihi (ja - (jb + 1)) (by omega) cA cB ce hinv2 (jb + 1) (by rw [← hst, ← hi, show ja - jb = (ja - (jb + 1)) + 1 by omega, zI_s]) (by omega) rfl H locs ls hP hS (lv_sub hl [0, 6, 7, 8, 9, 10, 11, 12, 13] rfl)
                          · skip
                            exact absurd (by decide) c_32
                        · skip
                          replace c_31 := Int32.not_lt.mp c_31
                          have hw2 := c_31
                          refine lv_iconst (v := 1) hx hb dX7_best_111 (by decide) ?_
                          refine lv_goto (tgt := 116) hx hb dX7_best_112 (by decide) ?_
                          refine lv_istore (lv' := [(14, .int 1), (12, .long (zsp n (nI ja) (nI jb))), (10, .long (n.toInt64 * (nI ja).toInt64 + (100 - n.toInt64) * (nI jb).toInt64)), (9, .int (nI jb)), (8, .int (nI ja)), (6, .long ce), (5, .int cB), (4, .int cA), (0, .ref (q 0)), (1, .int v), (2, .int n), (3, .int w)]) hx hb dX7_best_116 hl (by decide) rfl (fun ls hl => ?_)
                          refine lv_iload hx hb dX7_best_118 (lv_at hl 4 rfl) ?_
                          refine lv_iload hx hb dX7_best_120 (lv_at hl 3 rfl) ?_
                          refine lv_isub hx hb dX7_best_122 ?_
                          refine lv_iload hx hb dX7_best_123 (lv_at hl 4 rfl) ?_
                          refine lv_iload hx hb dX7_best_125 (lv_at hl 3 rfl) ?_
                          refine lv_isub hx hb dX7_best_127 ?_
                          refine lv_imul hx hb dX7_best_128 ?_
                          refine lv_i2l (v := (((nI ja) - (nI jb)) * ((nI ja) - (nI jb))).toInt64) hx hb dX7_best_129 rfl ?_
                          refine z_top (v2 := .long (zsq (nI ja) (nI jb))) (congrArg Value.long (zsq_i ja (by omega) jb (by omega))) ?_
                          refine lv_lstore (lv' := [(15, .long (zsq (nI ja) (nI jb))), (14, .int 1), (12, .long (zsp n (nI ja) (nI jb))), (10, .long (n.toInt64 * (nI ja).toInt64 + (100 - n.toInt64) * (nI jb).toInt64)), (9, .int (nI jb)), (8, .int (nI ja)), (6, .long ce), (5, .int cB), (4, .int cA), (0, .ref (q 0)), (1, .int v), (2, .int n), (3, .int w)]) hx hb dX7_best_130 hl (by decide) rfl (fun ls hl => ?_)
                          refine lv_iload hx hb dX7_best_132 (lv_at hl 8 rfl) ?_
                          refine lv_iload hx hb dX7_best_134 (lv_at hl 7 rfl) ?_
                          refine lv_isub hx hb dX7_best_136 ?_
                          refine lv_iload hx hb dX7_best_137 (lv_at hl 8 rfl) ?_
                          refine lv_iload hx hb dX7_best_139 (lv_at hl 7 rfl) ?_
                          refine lv_isub hx hb dX7_best_141 ?_
                          refine lv_imul hx hb dX7_best_142 ?_
                          refine lv_i2l (v := ((cA - cB) * (cA - cB)).toInt64) hx hb dX7_best_143 rfl ?_
                          refine lv_lstore (lv' := [(17, .long (((cA - cB) * (cA - cB)).toInt64)), (15, .long (zsq (nI ja) (nI jb))), (14, .int 1), (12, .long (zsp n (nI ja) (nI jb))), (10, .long (n.toInt64 * (nI ja).toInt64 + (100 - n.toInt64) * (nI jb).toInt64)), (9, .int (nI jb)), (8, .int (nI ja)), (6, .long ce), (5, .int cB), (4, .int cA), (0, .ref (q 0)), (1, .int v), (2, .int n), (3, .int w)]) hx hb dX7_best_144 hl (by decide) rfl (fun ls hl => ?_)
                          refine lv_iload hx hb dX7_best_146 (lv_at hl 2 rfl) ?_
                          refine lv_if_eq (tgt := 183) hx hb dX7_best_148 (by decide) (fun c_33 => ?_) (fun c_33 => ?_)
                          · skip
                            exact absurd c_33 (by decide)
                          · skip
                            refine lv_iload hx hb dX7_best_151 (lv_at hl 9 rfl) ?_
                            refine lv_iconst (v := (-1)) hx hb dX7_best_153 (by decide) ?_
                            refine lv_icmp_eq (tgt := 171) hx hb dX7_best_154 (by decide) (fun c_34 => ?_) (fun c_34 => ?_)
                            · skip
                              have ha1 := c_34
                              refine lv_iload hx hb dX7_best_171 (lv_at hl 6 rfl) ?_
                              refine lv_istore (lv' := [(4, .int (nI ja)), (17, .long (((cA - cB) * (cA - cB)).toInt64)), (15, .long (zsq (nI ja) (nI jb))), (14, .int 1), (12, .long (zsp n (nI ja) (nI jb))), (10, .long (n.toInt64 * (nI ja).toInt64 + (100 - n.toInt64) * (nI jb).toInt64)), (9, .int (nI jb)), (8, .int (nI ja)), (6, .long ce), (5, .int cB), (0, .ref (q 0)), (1, .int v), (2, .int n), (3, .int w)]) hx hb dX7_best_173 hl (by decide) rfl (fun ls hl => ?_)
                              refine lv_iload hx hb dX7_best_175 (lv_at hl 6 rfl) ?_
                              refine lv_istore (lv' := [(5, .int (nI jb)), (4, .int (nI ja)), (17, .long (((cA - cB) * (cA - cB)).toInt64)), (15, .long (zsq (nI ja) (nI jb))), (14, .int 1), (12, .long (zsp n (nI ja) (nI jb))), (10, .long (n.toInt64 * (nI ja).toInt64 + (100 - n.toInt64) * (nI jb).toInt64)), (9, .int (nI jb)), (8, .int (nI ja)), (6, .long ce), (0, .ref (q 0)), (1, .int v), (2, .int n), (3, .int w)]) hx hb dX7_best_177 hl (by decide) rfl (fun ls hl => ?_)
                              refine lv_lload hx hb dX7_best_179 (lv_at hl 5 rfl) ?_
                              refine lv_lstore (lv' := [(6, .long (zsp n (nI ja) (nI jb))), (5, .int (nI jb)), (4, .int (nI ja)), (17, .long (((cA - cB) * (cA - cB)).toInt64)), (15, .long (zsq (nI ja) (nI jb))), (14, .int 1), (12, .long (zsp n (nI ja) (nI jb))), (10, .long (n.toInt64 * (nI ja).toInt64 + (100 - n.toInt64) * (nI jb).toInt64)), (9, .int (nI jb)), (8, .int (nI ja)), (0, .ref (q 0)), (1, .int v), (2, .int n), (3, .int w)]) hx hb dX7_best_181 hl (by decide) rfl (fun ls hl => ?_)
                              have hst : zst v n (nI ja) (nI jb) (cA, cB) = ((nI ja), (nI jb)) := zst_p ⟨⟨hw1, hw2⟩, Or.inl ha1⟩
                              have hinv2 : nI ja = -1 ∨ ((zsp n (nI ja) (nI jb)) = zsp n (nI ja) (nI jb) ∧ ∃ x y : Nat, x < 24 ∧ y < 24 ∧ nI ja = nI x ∧ nI jb = nI y) := Or.inr ⟨rfl, ja, jb, by omega, by omega, rfl, rfl⟩
                              refine lv_iinc (v := nI (jb + 1)) (lv' := [(9, .int (nI (jb + 1))), (6, .long (zsp n (nI ja) (nI jb))), (5, .int (nI jb)), (4, .int (nI ja)), (17, .long (((cA - cB) * (cA - cB)).toInt64)), (15, .long (zsq (nI ja) (nI jb))), (14, .int 1), (12, .long (zsp n (nI ja) (nI jb))), (10, .long (n.toInt64 * (nI ja).toInt64 + (100 - n.toInt64) * (nI jb).toInt64)), (8, .int (nI ja)), (0, .ref (q 0)), (1, .int v), (2, .int n), (3, .int w)]) hx hb dX7_best_183 hl (k := 8) rfl (nI_1 jb) (by decide) rfl (fun ls hl => ?_)
                              refine lv_goto (tgt := 54) hx hb dX7_best_186 (by decide) ?_
                              exact ihi (ja - (jb + 1)) (by omega) (nI ja) (nI jb) (zsp n (nI ja) (nI jb)) hinv2 (jb + 1) (by rw [← hst, ← hi, show ja - jb = (ja - (jb + 1)) + 1 by omega, zI_s]) (by omega) rfl H locs ls hP hS (lv_sub hl [0, 9, 1, 2, 3, 10, 11, 12, 13] rfl)
                            · skip
                              have ha0 := c_34
                              obtain ⟨hle, hsq⟩ : ce = zsp n cA cB ∧ ((cA - cB) * (cA - cB)).toInt64 = zsq cA cB := hinvc.elim (fun q => absurd q c_34) (fun ⟨q1, x9, y9, q2, q3, q4, q5⟩ => ⟨q1, by rw [q4, q5]; exact zsq_i x9 q2 y9 q3⟩)
                              refine lv_lload hx hb dX7_best_157 (lv_at hl 3 rfl) ?_
                              refine lv_lload hx hb dX7_best_159 (lv_at hl 0 rfl) ?_
                              refine lv_lmul hx hb dX7_best_161 ?_
                              refine lv_lload hx hb dX7_best_162 (lv_at hl 7 rfl) ?_
                              refine lv_lload hx hb dX7_best_164 (lv_at hl 1 rfl) ?_
                              refine lv_lmul hx hb dX7_best_166 ?_
                              refine z_lcmp hx hb dX7_best_167 ?_
                              refine lv_if_ge (tgt := 183) hx hb dX7_best_168 (by decide) (fun c_35 => ?_) (fun c_35 => ?_)
                              · skip
                                replace c_35 := (lg_cmp_ge ((zsp n (nI ja) (nI jb)) * (((cA - cB) * (cA - cB)).toInt64)) (ce * (zsq (nI ja) (nI jb)))).mp c_35
                                have hs0 := c_35
                                rw [hle, hsq] at hs0
                                have hst : zst v n (nI ja) (nI jb) (cA, cB) = (cA, cB) := zst_n (fun h => h.2.elim ha0 (fun q => q hs0))
                                have hinv2 := hinvc
                                refine lv_iinc (v := nI (jb + 1)) (lv' := [(9, .int (nI (jb + 1))), (17, .long (((cA - cB) * (cA - cB)).toInt64)), (15, .long (zsq (nI ja) (nI jb))), (14, .int 1), (12, .long (zsp n (nI ja) (nI jb))), (10, .long (n.toInt64 * (nI ja).toInt64 + (100 - n.toInt64) * (nI jb).toInt64)), (8, .int (nI ja)), (6, .long ce), (5, .int cB), (4, .int cA), (0, .ref (q 0)), (1, .int v), (2, .int n), (3, .int w)]) hx hb dX7_best_183 hl (k := 5) rfl (nI_1 jb) (by decide) rfl (fun ls hl => ?_)
                                refine lv_goto (tgt := 54) hx hb dX7_best_186 (by decide) ?_
                                exact ihi (ja - (jb + 1)) (by omega) cA cB ce hinv2 (jb + 1) (by rw [← hst, ← hi, show ja - jb = (ja - (jb + 1)) + 1 by omega, zI_s]) (by omega) rfl H locs ls hP hS (lv_sub hl [0, 6, 7, 8, 9, 10, 11, 12, 13] rfl)
                              · skip
                                replace c_35 := fun h => c_35 ((lg_cmp_ge ((zsp n (nI ja) (nI jb)) * (((cA - cB) * (cA - cB)).toInt64)) (ce * (zsq (nI ja) (nI jb)))).mpr h)
                                have hs1 := c_35
                                rw [hle, hsq] at hs1
                                refine lv_iload hx hb dX7_best_171 (lv_at hl 6 rfl) ?_
                                refine lv_istore (lv' := [(4, .int (nI ja)), (17, .long (((cA - cB) * (cA - cB)).toInt64)), (15, .long (zsq (nI ja) (nI jb))), (14, .int 1), (12, .long (zsp n (nI ja) (nI jb))), (10, .long (n.toInt64 * (nI ja).toInt64 + (100 - n.toInt64) * (nI jb).toInt64)), (9, .int (nI jb)), (8, .int (nI ja)), (6, .long ce), (5, .int cB), (0, .ref (q 0)), (1, .int v), (2, .int n), (3, .int w)]) hx hb dX7_best_173 hl (by decide) rfl (fun ls hl => ?_)
                                refine lv_iload hx hb dX7_best_175 (lv_at hl 6 rfl) ?_
                                refine lv_istore (lv' := [(5, .int (nI jb)), (4, .int (nI ja)), (17, .long (((cA - cB) * (cA - cB)).toInt64)), (15, .long (zsq (nI ja) (nI jb))), (14, .int 1), (12, .long (zsp n (nI ja) (nI jb))), (10, .long (n.toInt64 * (nI ja).toInt64 + (100 - n.toInt64) * (nI jb).toInt64)), (9, .int (nI jb)), (8, .int (nI ja)), (6, .long ce), (0, .ref (q 0)), (1, .int v), (2, .int n), (3, .int w)]) hx hb dX7_best_177 hl (by decide) rfl (fun ls hl => ?_)
                                refine lv_lload hx hb dX7_best_179 (lv_at hl 5 rfl) ?_
                                refine lv_lstore (lv' := [(6, .long (zsp n (nI ja) (nI jb))), (5, .int (nI jb)), (4, .int (nI ja)), (17, .long (((cA - cB) * (cA - cB)).toInt64)), (15, .long (zsq (nI ja) (nI jb))), (14, .int 1), (12, .long (zsp n (nI ja) (nI jb))), (10, .long (n.toInt64 * (nI ja).toInt64 + (100 - n.toInt64) * (nI jb).toInt64)), (9, .int (nI jb)), (8, .int (nI ja)), (0, .ref (q 0)), (1, .int v), (2, .int n), (3, .int w)]) hx hb dX7_best_181 hl (by decide) rfl (fun ls hl => ?_)
                                have hst : zst v n (nI ja) (nI jb) (cA, cB) = ((nI ja), (nI jb)) := zst_p ⟨⟨hw1, hw2⟩, Or.inr hs1⟩
                                have hinv2 : nI ja = -1 ∨ ((zsp n (nI ja) (nI jb)) = zsp n (nI ja) (nI jb) ∧ ∃ x y : Nat, x < 24 ∧ y < 24 ∧ nI ja = nI x ∧ nI jb = nI y) := Or.inr ⟨rfl, ja, jb, by omega, by omega, rfl, rfl⟩
                                refine lv_iinc (v := nI (jb + 1)) (lv' := [(9, .int (nI (jb + 1))), (6, .long (zsp n (nI ja) (nI jb))), (5, .int (nI jb)), (4, .int (nI ja)), (17, .long (((cA - cB) * (cA - cB)).toInt64)), (15, .long (zsq (nI ja) (nI jb))), (14, .int 1), (12, .long (zsp n (nI ja) (nI jb))), (10, .long (n.toInt64 * (nI ja).toInt64 + (100 - n.toInt64) * (nI jb).toInt64)), (8, .int (nI ja)), (0, .ref (q 0)), (1, .int v), (2, .int n), (3, .int w)]) hx hb dX7_best_183 hl (k := 8) rfl (nI_1 jb) (by decide) rfl (fun ls hl => ?_)
                                refine lv_goto (tgt := 54) hx hb dX7_best_186 (by decide) ?_
                                exact ihi (ja - (jb + 1)) (by omega) (nI ja) (nI jb) (zsp n (nI ja) (nI jb)) hinv2 (jb + 1) (by rw [← hst, ← hi, show ja - jb = (ja - (jb + 1)) + 1 by omega, zI_s]) (by omega) rfl H locs ls hP hS (lv_sub hl [0, 9, 1, 2, 3, 10, 11, 12, 13] rfl)
            · skip
              exact absurd c_24 (by decide)
          · skip
            replace e_23 : r_17 = 0 := e_23
            subst e_23
            replace h_22 : ¬ (0 ≤ w ∧ w ≤ 1) := h_22
            refine lv_if_ne (tgt := 32) hx hb dX7_best_26 (by decide) (fun c_36 => ?_) (fun c_36 => ?_)
            · skip
              exact absurd c_36 (by decide)
            · skip
              refine lv_bipush (v := (-2)) hx hb dX7_best_29 (by decide) ?_
              exact W.iret (v := (-2)) hx hb hr (fun t ht hW => ⟨⟨(-2), (), rfl, (by first | assumption | with_reducible rfl | contradiction | exact (if_pos (by repeat' (first | assumption | decide | constructor))).symm | exact (if_neg (fun hh => absurd hh (by assumption))).symm | exact (if_neg (fun hh => absurd hh.1 (by assumption))).symm | exact (if_neg (fun hh => absurd hh.1.1 (by assumption))).symm | exact (if_neg (fun hh => absurd hh.1.2 (by assumption))).symm | exact (if_neg (fun hh => absurd hh.2 (by assumption))).symm | exact (if_neg (fun hh => absurd hh.2.1 (by assumption))).symm | exact (if_neg (fun hh => absurd hh.2.1.1 (by assumption))).symm | exact (if_neg (fun hh => absurd hh.2.1.2 (by assumption))).symm | exact (if_neg (fun hh => absurd hh.2.2 (by assumption))).symm | exact (if_neg (fun hh => absurd hh.2.2.1 (by assumption))).symm | exact (if_neg (fun hh => absurd hh.2.2.2 (by assumption))).symm | decide | (exfalso; simp only [zi_le, zi_lt, zi_eq, zi_n0, zi_n1, zi_n2, zi_n3, zi_n4, zi_n23, zi_n24, zi_n100, zi_n399, zi_n60, zi_n255, zi_n99, zi_nm1, zi_n30] at *; omega) | (simp_all; done)), ⟨by rw [ht]; exact hP, hD⟩⟩, hS.F ht⟩) hS.2.2 dX7_best_31
      · skip
        replace e_15 : r_9 = 0 := e_15
        subst e_15
        replace h_14 : ¬ (0 ≤ n ∧ n ≤ 100) := h_14
        refine lv_if_eq (tgt := 29) hx hb dX7_best_17 (by decide) (fun c_37 => ?_) (fun c_37 => ?_)
        · skip
          refine lv_bipush (v := (-2)) hx hb dX7_best_29 (by decide) ?_
          exact W.iret (v := (-2)) hx hb hr (fun t ht hW => ⟨⟨(-2), (), rfl, (by first | assumption | with_reducible rfl | contradiction | exact (if_pos (by repeat' (first | assumption | decide | constructor))).symm | exact (if_neg (fun hh => absurd hh (by assumption))).symm | exact (if_neg (fun hh => absurd hh.1 (by assumption))).symm | exact (if_neg (fun hh => absurd hh.1.1 (by assumption))).symm | exact (if_neg (fun hh => absurd hh.1.2 (by assumption))).symm | exact (if_neg (fun hh => absurd hh.2 (by assumption))).symm | exact (if_neg (fun hh => absurd hh.2.1 (by assumption))).symm | exact (if_neg (fun hh => absurd hh.2.1.1 (by assumption))).symm | exact (if_neg (fun hh => absurd hh.2.1.2 (by assumption))).symm | exact (if_neg (fun hh => absurd hh.2.2 (by assumption))).symm | exact (if_neg (fun hh => absurd hh.2.2.1 (by assumption))).symm | exact (if_neg (fun hh => absurd hh.2.2.2 (by assumption))).symm | decide | (exfalso; simp only [zi_le, zi_lt, zi_eq, zi_n0, zi_n1, zi_n2, zi_n3, zi_n4, zi_n23, zi_n24, zi_n100, zi_n399, zi_n60, zi_n255, zi_n99, zi_nm1, zi_n30] at *; omega) | (simp_all; done)), ⟨by rw [ht]; exact hP, hD⟩⟩, hS.F ht⟩) hS.2.2 dX7_best_31
        · skip
          exact absurd (by decide) c_37
  · skip
    replace e_7 : r_1 = 0 := e_7
    subst e_7
    replace h_6 : ¬ (2 ≤ v ∧ v ≤ 30) := h_6
    refine lv_if_eq (tgt := 29) hx hb dX7_best_7 (by decide) (fun c_38 => ?_) (fun c_38 => ?_)
    · skip
      refine lv_bipush (v := (-2)) hx hb dX7_best_29 (by decide) ?_
      exact W.iret (v := (-2)) hx hb hr (fun t ht hW => ⟨⟨(-2), (), rfl, (by first | assumption | with_reducible rfl | contradiction | exact (if_pos (by repeat' (first | assumption | decide | constructor))).symm | exact (if_neg (fun hh => absurd hh (by assumption))).symm | exact (if_neg (fun hh => absurd hh.1 (by assumption))).symm | exact (if_neg (fun hh => absurd hh.1.1 (by assumption))).symm | exact (if_neg (fun hh => absurd hh.1.2 (by assumption))).symm | exact (if_neg (fun hh => absurd hh.2 (by assumption))).symm | exact (if_neg (fun hh => absurd hh.2.1 (by assumption))).symm | exact (if_neg (fun hh => absurd hh.2.1.1 (by assumption))).symm | exact (if_neg (fun hh => absurd hh.2.1.2 (by assumption))).symm | exact (if_neg (fun hh => absurd hh.2.2 (by assumption))).symm | exact (if_neg (fun hh => absurd hh.2.2.1 (by assumption))).symm | exact (if_neg (fun hh => absurd hh.2.2.2 (by assumption))).symm | decide | (exfalso; simp only [zi_le, zi_lt, zi_eq, zi_n0, zi_n1, zi_n2, zi_n3, zi_n4, zi_n23, zi_n24, zi_n100, zi_n399, zi_n60, zi_n255, zi_n99, zi_nm1, zi_n30] at *; omega) | (simp_all; done)), ⟨by rw [ht]; exact hP, hD⟩⟩, hS.F ht⟩) hS.2.2 dX7_best_31
    · skip
      exact absurd (by decide) c_38
