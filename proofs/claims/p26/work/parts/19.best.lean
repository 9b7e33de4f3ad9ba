set_option maxHeartbeats 4000000 in
set_option maxRecDepth 100000 in
theorem c_X6_spreadOfYes (l : Launch) (dC : Nat → ClassId) (dI : Nat → Nat → Nat) (k : Nat → ClassId) (x0 : Int32) (y0 : Int32) (n : Int32) (sz : Nat) (h0 : 0 ≤ x0.toInt ∧ x0.toInt ≤ 23) (h1 : 0 ≤ y0.toInt ∧ y0.toInt ≤ 23) (h2 : 0 ≤ n.toInt ∧ n.toInt ≤ 100) : Met l yX6_spreadOfYes (wz yX6_spreadOfYes cX6_spreadOfYes 5 (some .long)) ({ frames := 0, cells := 0, slots := 0, locals := 0 }) (va_Pc [.int x0, .int y0, .int n] (zPre dC dI k (zTX k) [] sz)) (va_Ql (fun (r : Int64) (u : Unit) => (r.toInt = bsp n.toInt x0.toInt y0.toInt) ∧ (-11040000 ≤ r.toInt ∧ r.toInt ≤ 11040000)) (fun u t => zPost dC dI (va_A [] sz) [] t) (va_A [] sz)) 0 0 (va_A [] sz) := by
  refine Met.ofW (cc := cX6_spreadOfYes) (maxL := 5) (ret := (some .long)) (by decide) rfl ?_
  intro p e s m args below meth c s₁ B hml hv
  obtain ⟨rfl, hsz, hP, hK, hD0⟩ := hv
  have hx := B.exec
  have hb := B.bytes
  have hr := B.returns
  have hts := atoms_spec (ws := wz yX6_spreadOfYes cX6_spreadOfYes 5 (some .long)) B.pre
  have htb : ∀ w ∈ zw, w.before _ s = true := fun w h => hts w (List.mem_cons_of_mem _ h)
  have hown : s.vm.findClass RX6 = some m.cls := findClass_of_methodNamed B.named
  have hlocks := B.notSynchronized
  clear hts
  subst hsz
  have hD := hD0.self (sz := s.heap.size)
  generalize hAe : va_A [] s.heap.size = A at hD ⊢
  have hA : ∀ q : Nat, s.heap.size ≤ q → A q := fun q h => by rw [← hAe]; exact Or.inr h
  have hl := lv_entry ([.int x0, .int y0, .int n]) (n := 5) (Nat.le_of_ble_eq_true rfl)
  rw [lg_entry_eq]
  generalize (lg_sl ([.int x0, .int y0, .int n]) ++ List.replicate (5 - (lg_sl ([.int x0, .int y0, .int n])).length) Slot.unset).toArray = ls at hl ⊢
  have hl : lv_has ls 5 [(0, .int x0), (1, .int y0), (2, .int n)] := hl
  refine z_start2 (A := A) (w := []) hP (fun H locs hP hS => ?_)
  clear hD0 hAe
  refine lv_iload_n hx hb dX6_spreadOfYes_0 rfl (lv_at hl 2 rfl) ?_
  refine lv_i2l (v := n.toInt64) hx hb dX6_spreadOfYes_1 rfl ?_
  refine lv_topl (fun x_1 ex_1 => ?_)
  have hx_1 : x_1.toInt = n.toInt := by rw [ex_1]; exact Jvm.Kit.i64_of_i32 _
  refine lv_iload_n hx hb dX6_spreadOfYes_2 rfl (lv_at hl 0 rfl) ?_
  refine lv_i2l (v := x0.toInt64) hx hb dX6_spreadOfYes_3 rfl ?_
  refine lv_topl (fun x_2 ex_2 => ?_)
  have hx_2 : x_2.toInt = x0.toInt := by rw [ex_2]; exact Jvm.Kit.i64_of_i32 _
  refine lv_lmul hx hb dX6_spreadOfYes_4 ?_
  refine lv_topl (fun x_3 ex_3 => ?_)
  have qx_3 := z_mulb (a := x_1.toInt) (b := x_2.toInt) (A := 100) (B := 23) (by omega) (by omega)
  have hx_3 := zl_mul ex_3 rfl rfl (by omega)
  refine lv_ldc2 (v := 100) hx hb hown (htb _ wmt2_218) dX6_spreadOfYes_5 ?_
  refine lv_iload_n hx hb dX6_spreadOfYes_8 rfl (lv_at hl 2 rfl) ?_
  refine lv_i2l (v := n.toInt64) hx hb dX6_spreadOfYes_9 rfl ?_
  refine lv_topl (fun x_4 ex_4 => ?_)
  have hx_4 : x_4.toInt = n.toInt := by rw [ex_4]; exact Jvm.Kit.i64_of_i32 _
  refine lv_lsub hx hb dX6_spreadOfYes_10 ?_
  refine lv_topl (fun x_5 ex_5 => ?_)
  have hx_5 := zl_sub ex_5 (show (100 : Int64).toInt = 100 by decide) rfl (by omega)
  refine lv_iload_n hx hb dX6_spreadOfYes_11 rfl (lv_at hl 1 rfl) ?_
  refine lv_i2l (v := y0.toInt64) hx hb dX6_spreadOfYes_12 rfl ?_
  refine lv_topl (fun x_6 ex_6 => ?_)
  have hx_6 : x_6.toInt = y0.toInt := by rw [ex_6]; exact Jvm.Kit.i64_of_i32 _
  refine lv_lmul hx hb dX6_spreadOfYes_13 ?_
  refine lv_topl (fun x_7 ex_7 => ?_)
  have qx_7 := z_mulb (a := x_5.toInt) (b := x_6.toInt) (A := 100) (B := 23) (by omega) (by omega)
  have hx_7 := zl_mul ex_7 rfl rfl (by omega)
  refine lv_ladd hx hb dX6_spreadOfYes_14 ?_
  refine lv_topl (fun x_8 ex_8 => ?_)
  have hx_8 := zl_add ex_8 rfl rfl (by omega)
  refine lv_lstore_n (lv' := [(3, .long x_8), (0, .int x0), (1, .int y0), (2, .int n)]) hx hb dX6_spreadOfYes_15 rfl hl (by decide) rfl (fun ls hl => ?_)
  refine lv_lload_n hx hb dX6_spreadOfYes_16 rfl (lv_at hl 0 rfl) ?_
  refine lv_ldc2 (v := 2400) hx hb hown (htb _ wmt3_64) dX6_spreadOfYes_17 ?_
  refine lv_lload_n hx hb dX6_spreadOfYes_20 rfl (lv_at hl 0 rfl) ?_
  refine lv_lsub hx hb dX6_spreadOfYes_21 ?_
  refine lv_topl (fun x_9 ex_9 => ?_)
  have hx_9 := zl_sub ex_9 (show (2400 : Int64).toInt = 2400 by decide) rfl (by omega)
  refine lv_lmul hx hb dX6_spreadOfYes_22 ?_
  refine lv_topl (fun x_10 ex_10 => ?_)
  have qx_10 := z_mulab (a := x_8.toInt) (b := x_9.toInt) (A := 4600) (B := 2400) (by omega) (by omega) (by decide) (by decide)
  have hx_10 := zl_mul ex_10 rfl rfl (by omega)
  exact W.lret (v := x_10) hx hb hr (fun t ht hW => ⟨⟨x_10, (), rfl, ⟨by unfold bsp; simp only [hx_1, hx_2, hx_3, hx_4, hx_5, hx_6, hx_7, hx_8, hx_9, hx_10], by omega⟩, ⟨by rw [ht]; exact hP, hD⟩⟩, hS.F ht⟩) hS.2.2 dX6_spreadOfYes_23
set_option maxHeartbeats 4000000 in
set_option maxRecDepth 100000 in
theorem c_X6_scattersLess (l : Launch) (dC : Nat → ClassId) (dI : Nat → Nat → Nat) (k : Nat → ClassId) (x0 : Int32) (y0 : Int32) (x1 : Int32) (y1 : Int32) (n : Int32) (sz : Nat) (h0 : 1 ≤ y0.toInt ∧ y0.toInt < x0.toInt ∧ x0.toInt ≤ 23) (h1 : 1 ≤ y1.toInt ∧ y1.toInt < x1.toInt ∧ x1.toInt ≤ 23) (h2 : 0 ≤ n.toInt ∧ n.toInt ≤ 100) : Met l yX6_scattersLess (wz yX6_scattersLess cX6_scattersLess 9 (some .boolean)) ({ frames := 1, cells := 0, slots := 0, locals := 24 }) (va_Pc [.int x0, .int y0, .int x1, .int y1, .int n] (zPre dC dI k (zTX k) [] sz)) (va_Qi (fun (r : Int32) (u : Unit) => (r = 1 ∧ (bLs n.toInt x0.toInt y0.toInt x1.toInt y1.toInt)) ∨ (r = 0 ∧ (¬ bLs n.toInt x0.toInt y0.toInt x1.toInt y1.toInt))) (fun u t => zPost dC dI (va_A [] sz) [] t) (va_A [] sz)) 0 0 (va_A [] sz) := by
  refine Met.ofW (cc := cX6_scattersLess) (maxL := 9) (ret := (some .boolean)) (by decide) rfl ?_
  intro p e s m args below meth c s₁ B hml hv
  obtain ⟨rfl, hsz, hP, hK, hD0⟩ := hv
  have hx := B.exec
  have hb := B.bytes
  have hr := B.returns
  have hts := atoms_spec (ws := wz yX6_scattersLess cX6_scattersLess 9 (some .boolean)) B.pre
  have htb : ∀ w ∈ zw, w.before _ s = true := fun w h => hts w (List.mem_cons_of_mem _ h)
  have hown : s.vm.findClass RX6 = some m.cls := findClass_of_methodNamed B.named
  have hlocks := B.notSynchronized
  clear hts
  subst hsz
  have hD := hD0.self (sz := s.heap.size)
  generalize hAe : va_A [] s.heap.size = A at hD ⊢
  have hA : ∀ q : Nat, s.heap.size ≤ q → A q := fun q h => by rw [← hAe]; exact Or.inr h
  have hl := lv_entry ([.int x0, .int y0, .int x1, .int y1, .int n]) (n := 9) (Nat.le_of_ble_eq_true rfl)
  rw [lg_entry_eq]
  generalize (lg_sl ([.int x0, .int y0, .int x1, .int y1, .int n]) ++ List.replicate (9 - (lg_sl ([.int x0, .int y0, .int x1, .int y1, .int n])).length) Slot.unset).toArray = ls at hl ⊢
  have hl : lv_has ls 9 [(0, .int x0), (1, .int y0), (2, .int x1), (3, .int y1), (4, .int n)] := hl
  refine z_start2 (A := A) (w := []) hP (fun H locs hP hS => ?_)
  clear hD0 hAe
  refine lv_iload_n hx hb dX6_scattersLess_0 rfl (lv_at hl 0 rfl) ?_
  refine lv_iload_n hx hb dX6_scattersLess_1 rfl (lv_at hl 1 rfl) ?_
  refine lv_isub hx hb dX6_scattersLess_2 ?_
  refine lv_topi (fun x_1 ex_1 => ?_)
  have hx_1 := z_sub ex_1 rfl rfl (by omega)
  refine lv_i2l (v := x_1.toInt64) hx hb dX6_scattersLess_3 rfl ?_
  refine lv_topl (fun x_2 ex_2 => ?_)
  have hx_2 : x_2.toInt = x_1.toInt := by rw [ex_2]; exact Jvm.Kit.i64_of_i32 _
  refine lv_iload_n hx hb dX6_scattersLess_4 rfl (lv_at hl 0 rfl) ?_
  refine lv_iload_n hx hb dX6_scattersLess_5 rfl (lv_at hl 1 rfl) ?_
  refine lv_isub hx hb dX6_scattersLess_6 ?_
  refine lv_topi (fun x_3 ex_3 => ?_)
  have hx_3 := z_sub ex_3 rfl rfl (by omega)
  refine lv_i2l (v := x_3.toInt64) hx hb dX6_scattersLess_7 rfl ?_
  refine lv_topl (fun x_4 ex_4 => ?_)
  have hx_4 : x_4.toInt = x_3.toInt := by rw [ex_4]; exact Jvm.Kit.i64_of_i32 _
  refine lv_lmul hx hb dX6_scattersLess_8 ?_
  refine lv_topl (fun x_5 ex_5 => ?_)
  have qx_5 := z_mulb (a := x_2.toInt) (b := x_4.toInt) (A := 22) (B := 22) (by omega) (by omega)
  have hx_5 := zl_mul ex_5 rfl rfl (by omega)
  refine lv_lstore (lv' := [(5, .long x_5), (0, .int x0), (1, .int y0), (2, .int x1), (3, .int y1), (4, .int n)]) hx hb dX6_scattersLess_9 hl (by decide) rfl (fun ls hl => ?_)
  refine lv_iload_n hx hb dX6_scattersLess_11 rfl (lv_at hl 3 rfl) ?_
  refine lv_iload_n hx hb dX6_scattersLess_12 rfl (lv_at hl 4 rfl) ?_
  refine lv_isub hx hb dX6_scattersLess_13 ?_
  refine lv_topi (fun x_6 ex_6 => ?_)
  have hx_6 := z_sub ex_6 rfl rfl (by omega)
  refine lv_i2l (v := x_6.toInt64) hx hb dX6_scattersLess_14 rfl ?_
  refine lv_topl (fun x_7 ex_7 => ?_)
  have hx_7 : x_7.toInt = x_6.toInt := by rw [ex_7]; exact Jvm.Kit.i64_of_i32 _
  refine lv_iload_n hx hb dX6_scattersLess_15 rfl (lv_at hl 3 rfl) ?_
  refine lv_iload_n hx hb dX6_scattersLess_16 rfl (lv_at hl 4 rfl) ?_
  refine lv_isub hx hb dX6_scattersLess_17 ?_
  refine lv_topi (fun x_8 ex_8 => ?_)
  have hx_8 := z_sub ex_8 rfl rfl (by omega)
  refine lv_i2l (v := x_8.toInt64) hx hb dX6_scattersLess_18 rfl ?_
  refine lv_topl (fun x_9 ex_9 => ?_)
  have hx_9 : x_9.toInt = x_8.toInt := by rw [ex_9]; exact Jvm.Kit.i64_of_i32 _
  refine lv_lmul hx hb dX6_scattersLess_19 ?_
  refine lv_topl (fun x_10 ex_10 => ?_)
  have qx_10 := z_mulb (a := x_7.toInt) (b := x_9.toInt) (A := 22) (B := 22) (by omega) (by omega)
  have hx_10 := zl_mul ex_10 rfl rfl (by omega)
  refine lv_lstore (lv' := [(7, .long x_10), (5, .long x_5), (0, .int x0), (1, .int y0), (2, .int x1), (3, .int y1), (4, .int n)]) hx hb dX6_scattersLess_20 hl (by decide) rfl (fun ls hl => ?_)
  refine lv_iload_n hx hb dX6_scattersLess_22 rfl (lv_at hl 2 rfl) ?_
  refine lv_iload_n hx hb dX6_scattersLess_23 rfl (lv_at hl 3 rfl) ?_
  refine lv_iload hx hb dX6_scattersLess_24 (lv_at hl 6 rfl) ?_
  refine zc0_l (w := []) (va_runS (As := [.int x0, .int y0, .int n]) (rest := []) ⟨hx, hb, hml, hown, htb⟩ (c_X6_spreadOfYes l dC dI k x0 y0 n _ (by omega) (by omega) h2) (va_cwS 3 htb (gzS wmt3_61 wmt3_62 wmt1_1 wmt3_63) rfl rfl rfl (by decide +kernel) ⟨Nat.le_of_ble_eq_true rfl, Nat.le_of_ble_eq_true rfl⟩) (zp0_S hK) rfl rfl hl.1 rfl (lv_room (Nat.le_of_ble_eq_true rfl)) dX6_scattersLess_26 ⟨Nat.le_of_ble_eq_true rfl, Nat.le_of_ble_eq_true rfl⟩) hP hS hA (fun r_11 u_12 H locs w_13 hP hS => ?_)
  obtain ⟨h_14, h_15⟩ := w_13
  replace h_14 : r_11.toInt = bsp n.toInt x0.toInt y0.toInt := h_14
  replace h_15 : -11040000 ≤ r_11.toInt ∧ r_11.toInt ≤ 11040000 := h_15
  have hsp0 := h_14
  have hsb0 := h_15
  refine lv_lload hx hb dX6_scattersLess_29 (lv_at hl 0 rfl) ?_
  refine lv_lmul hx hb dX6_scattersLess_31 ?_
  refine lv_topl (fun x_17 ex_17 => ?_)
  have qx_17 := z_mulab (a := r_11.toInt) (b := x_10.toInt) (A := 11040000) (B := 484) (by omega) (by omega) (by decide) (by decide)
  have hx_17 := zl_mul ex_17 rfl rfl (by omega)
  have g0 : x_17.toInt = bsp n.toInt x0.toInt y0.toInt * bsq x1.toInt y1.toInt := by unfold bsq; simp only [hx_17, hx_1, hx_2, hx_3, hx_4, hx_5, hx_6, hx_7, hx_8, hx_9, hx_10, hsp0]
  refine lv_iload_n hx hb dX6_scattersLess_32 rfl (lv_at hl 4 rfl) ?_
  refine lv_iload_n hx hb dX6_scattersLess_33 rfl (lv_at hl 5 rfl) ?_
  refine lv_iload hx hb dX6_scattersLess_34 (lv_at hl 6 rfl) ?_
  refine zc0_l (w := []) (va_runS (As := [.int x1, .int y1, .int n]) (rest := [.long x_17]) ⟨hx, hb, hml, hown, htb⟩ (c_X6_spreadOfYes l dC dI k x1 y1 n _ (by omega) (by omega) h2) (va_cwS 3 htb (gzS wmt3_61 wmt3_62 wmt1_1 wmt3_63) rfl rfl rfl (by decide +kernel) ⟨Nat.le_of_ble_eq_true rfl, Nat.le_of_ble_eq_true rfl⟩) (zp0_S hK) rfl rfl hl.1 rfl (lv_room (Nat.le_of_ble_eq_true rfl)) dX6_scattersLess_36 ⟨Nat.le_of_ble_eq_true rfl, Nat.le_of_ble_eq_true rfl⟩) hP hS hA (fun r_18 u_19 H locs w_20 hP hS => ?_)
  obtain ⟨h_21, h_22⟩ := w_20
  replace h_21 : r_18.toInt = bsp n.toInt x1.toInt y1.toInt := h_21
  replace h_22 : -11040000 ≤ r_18.toInt ∧ r_18.toInt ≤ 11040000 := h_22
  have hsp1 := h_21
  have hsb1 := h_22
  refine lv_lload hx hb dX6_scattersLess_39 (lv_at hl 1 rfl) ?_
  refine lv_lmul hx hb dX6_scattersLess_41 ?_
  refine lv_topl (fun x_24 ex_24 => ?_)
  have qx_24 := z_mulab (a := r_18.toInt) (b := x_5.toInt) (A := 11040000) (B := 484) (by omega) (by omega) (by decide) (by decide)
  have hx_24 := zl_mul ex_24 rfl rfl (by omega)
  have g1 : x_24.toInt = bsp n.toInt x1.toInt y1.toInt * bsq x0.toInt y0.toInt := by unfold bsq; simp only [hx_24, hx_1, hx_2, hx_3, hx_4, hx_5, hx_6, hx_7, hx_8, hx_9, hx_10, hsp1]
  refine z_lcmp hx hb dX6_scattersLess_42 ?_
  refine lv_if_ge (tgt := 50) hx hb dX6_scattersLess_43 (by decide) (fun c_25 => ?_) (fun c_25 => ?_)
  · skip
    have hc_25 := zl_ge rfl rfl c_25
    refine lv_iconst (v := 0) hx hb dX6_scattersLess_50 (by decide) ?_
    exact W.zret (v := 0) (ty := .boolean) hx hb hr rfl (fun t ht hW => ⟨⟨0, (), rfl, (Or.inr ⟨rfl, by unfold bLs; omega⟩), ⟨by rw [ht]; exact hP, hD⟩⟩, hS.F ht⟩) hS.2.2 dX6_scattersLess_51
  · skip
    have hc_25 := zl_nge rfl rfl c_25
    refine lv_iconst (v := 1) hx hb dX6_scattersLess_46 (by decide) ?_
    refine lv_goto (tgt := 51) hx hb dX6_scattersLess_47 (by decide) ?_
    exact W.zret (v := 1) (ty := .boolean) hx hb hr rfl (fun t ht hW => ⟨⟨1, (), rfl, (Or.inl ⟨rfl, by unfold bLs; omega⟩), ⟨by rw [ht]; exact hP, hD⟩⟩, hS.F ht⟩) hS.2.2 dX6_scattersLess_51
set_option maxHeartbeats 4000000 in
set_option maxRecDepth 100000 in
theorem c_X6_best (l : Launch) (dC : Nat → ClassId) (dI : Nat → Nat → Nat) (k : Nat → ClassId) (q : Nat → Nat) (z : ZS) (v : Int32) (n : Int32) (w : Int32) (sz : Nat) (hI : XInv z) : Met l yX6_best (wz yX6_best cX6_best 9 (some .int)) ({ frames := 2, cells := 0, slots := 0, locals := 52 }) (va_Pc [.ref (q 0), .int v, .int n, .int w] (zPre dC dI k (zTX k) (zX k q z) sz)) (va_Qi (fun (r : Int32) (u : Unit) => (r = tBest v n w)) (fun u t => zPost dC dI (va_A (zX k q z) sz) (zX k q z) t) (va_A (zX k q z) sz)) 0 0 (va_A (zX k q z) sz) := by
  refine Met.ofW (cc := cX6_best) (maxL := 9) (ret := (some .int)) (by decide) rfl ?_
  intro p e s m args below meth c s₁ B hml hv
  obtain ⟨rfl, hsz, hP, hK, hD0⟩ := hv
  have hx := B.exec
  have hb := B.bytes
  have hr := B.returns
  have hts := atoms_spec (ws := wz yX6_best cX6_best 9 (some .int)) B.pre
  have htb : ∀ w ∈ zw, w.before _ s = true := fun w h => hts w (List.mem_cons_of_mem _ h)
  have hown : s.vm.findClass RX6 = some m.cls := findClass_of_methodNamed B.named
  have hlocks := B.notSynchronized
  clear hts
  subst hsz
  have hD := hD0.self (sz := s.heap.size)
  generalize hAe : va_A (zX k q z) s.heap.size = A at hD ⊢
  have hA : ∀ q : Nat, s.heap.size ≤ q → A q := fun q h => by rw [← hAe]; exact Or.inr h
  have hDa : ∀ z9 : ZS, va_D A (zX k q z9) := fun z9 => va_D_adr (w := zX k q z) rfl hD
  have hl := lv_entry ([.ref (q 0), .int v, .int n, .int w]) (n := 9) (Nat.le_of_ble_eq_true rfl)
  rw [lg_entry_eq]
  generalize (lg_sl ([.ref (q 0), .int v, .int n, .int w]) ++ List.replicate (9 - (lg_sl ([.ref (q 0), .int v, .int n, .int w])).length) Slot.unset).toArray = ls at hl ⊢
  have hl : lv_has ls 9 [(0, .ref (q 0)), (1, .int v), (2, .int n), (3, .int w)] := hl
  refine z_start2 (A := A) (w := (zX k q z)) hP (fun H locs hP hS => ?_)
  clear hD0 hAe
  have hT : trX z = trX z := rfl
  refine lv_iload_n hx hb dX6_best_0 rfl (lv_at hl 1 rfl) ?_
  refine lv_iconst (v := 2) hx hb dX6_best_1 (by decide) ?_
  refine lv_icmp_lt (tgt := 28) hx hb dX6_best_2 (by decide) (fun c_1 => ?_) (fun c_1 => ?_)
  · skip
    have hc_1 := zb_lt rfl (show (2 : Int32).toInt = 2 by decide) c_1
    refine lv_bipush (v := (-2)) hx hb dX6_best_28 (by decide) ?_
    exact W.iret (v := (-2)) hx hb hr (fun t ht hW => ⟨⟨(-2), (), rfl, (tBest_bad (by omega)), ⟨by rw [ht]; exact hP, hDa _⟩⟩, hS.F ht⟩) hS.2.2 dX6_best_30
  · skip
    have hc_1 := zb_nlt rfl (show (2 : Int32).toInt = 2 by decide) c_1
    refine lv_iload_n hx hb dX6_best_5 rfl (lv_at hl 1 rfl) ?_
    refine lv_bipush (v := 30) hx hb dX6_best_6 (by decide) ?_
    refine lv_icmp_gt (tgt := 28) hx hb dX6_best_8 (by decide) (fun c_2 => ?_) (fun c_2 => ?_)
    · skip
      have hc_2 := zb_lt (show (30 : Int32).toInt = 30 by decide) rfl c_2
      refine lv_bipush (v := (-2)) hx hb dX6_best_28 (by decide) ?_
      exact W.iret (v := (-2)) hx hb hr (fun t ht hW => ⟨⟨(-2), (), rfl, (tBest_bad (by omega)), ⟨by rw [ht]; exact hP, hDa _⟩⟩, hS.F ht⟩) hS.2.2 dX6_best_30
    · skip
      have hc_2 := zb_nlt (show (30 : Int32).toInt = 30 by decide) rfl c_2
      refine lv_iload_n hx hb dX6_best_11 rfl (lv_at hl 2 rfl) ?_
      refine lv_if_lt (tgt := 28) hx hb dX6_best_12 (by decide) (fun c_3 => ?_) (fun c_3 => ?_)
      · skip
        have hc_3 := zb_lt rfl (show (0 : Int32).toInt = 0 by decide) c_3
        refine lv_bipush (v := (-2)) hx hb dX6_best_28 (by decide) ?_
        exact W.iret (v := (-2)) hx hb hr (fun t ht hW => ⟨⟨(-2), (), rfl, (tBest_bad (by omega)), ⟨by rw [ht]; exact hP, hDa _⟩⟩, hS.F ht⟩) hS.2.2 dX6_best_30
      · skip
        have hc_3 := zb_nlt rfl (show (0 : Int32).toInt = 0 by decide) c_3
        refine lv_iload_n hx hb dX6_best_15 rfl (lv_at hl 2 rfl) ?_
        refine lv_bipush (v := 100) hx hb dX6_best_16 (by decide) ?_
        refine lv_icmp_gt (tgt := 28) hx hb dX6_best_18 (by decide) (fun c_4 => ?_) (fun c_4 => ?_)
        · skip
          have hc_4 := zb_lt (show (100 : Int32).toInt = 100 by decide) rfl c_4
          refine lv_bipush (v := (-2)) hx hb dX6_best_28 (by decide) ?_
          exact W.iret (v := (-2)) hx hb hr (fun t ht hW => ⟨⟨(-2), (), rfl, (tBest_bad (by omega)), ⟨by rw [ht]; exact hP, hDa _⟩⟩, hS.F ht⟩) hS.2.2 dX6_best_30
        · skip
          have hc_4 := zb_nlt (show (100 : Int32).toInt = 100 by decide) rfl c_4
          refine lv_iload_n hx hb dX6_best_21 rfl (lv_at hl 3 rfl) ?_
          refine zc0_i (w := (zX k q z)) (va_runS (As := [.int w]) (rest := []) ⟨hx, hb, hml, hown, htb⟩ (c_X6_isEither l dC dI k w _ ) (va_cwS 1 htb (gzS wmt2_48 wmt2_49 wmt1_1 wmt2_50) rfl rfl rfl (by decide +kernel) ⟨Nat.le_of_ble_eq_true rfl, Nat.le_of_ble_eq_true rfl⟩) (zp0_S hK) rfl rfl hl.1 rfl (lv_room (Nat.le_of_ble_eq_true rfl)) dX6_best_22 ⟨Nat.le_of_ble_eq_true rfl, Nat.le_of_ble_eq_true rfl⟩) hP hS hA (fun r_5 u_6 H locs w_7 hP hS => ?_)
          rcases w_7 with ⟨e_9, h_8⟩ | ⟨e_11, h_10⟩
          · skip
            replace e_9 : r_5 = 1 := e_9
            subst e_9
            replace h_8 : 0 ≤ w.toInt ∧ w.toInt < 2 := h_8
            refine lv_if_ne (tgt := 31) hx hb dX6_best_25 (by decide) (fun c_12 => ?_) (fun c_12 => ?_)
            · skip
              refine lv_iconst (v := (-1)) hx hb dX6_best_31 (by decide) ?_
              refine lv_istore (lv' := [(4, .int (-1)), (0, .ref (q 0)), (1, .int v), (2, .int n), (3, .int w)]) hx hb dX6_best_32 hl (by decide) rfl (fun ls hl => ?_)
              refine lv_iconst (v := (-1)) hx hb dX6_best_34 (by decide) ?_
              refine lv_istore (lv' := [(5, .int (-1)), (4, .int (-1)), (0, .ref (q 0)), (1, .int v), (2, .int n), (3, .int w)]) hx hb dX6_best_35 hl (by decide) rfl (fun ls hl => ?_)
              refine lv_iconst (v := 2) hx hb dX6_best_37 (by decide) ?_
              refine lv_istore (lv' := [(6, .int 2), (5, .int (-1)), (4, .int (-1)), (0, .ref (q 0)), (1, .int v), (2, .int n), (3, .int w)]) hx hb dX6_best_38 hl (by decide) rfl (fun ls hl => ?_)
              obtain ⟨bA, ebA⟩ : ∃ x : Int32, (-1) = x := ⟨_, rfl⟩
              obtain ⟨bB, ebB⟩ : ∃ x : Int32, (-1) = x := ⟨_, rfl⟩
              obtain ⟨i, ei⟩ : ∃ x : Int32, 2 = x := ⟨_, rfl⟩
              have hv40 : (2 ≤ i.toInt ∧ i.toInt ≤ 24) ∧ (BQ bA.toInt bB.toInt) ∧ (bO v.toInt n.toInt (24 - i.toInt).toNat i.toInt (bA.toInt, bB.toInt) = bR v.toInt n.toInt) := by subst ebA ebB ei; exact ⟨(by decide), (Or.inl (by decide)), (bO_0 (by decide) (by decide) (by decide))⟩
              replace hl : lv_has ls 9 [(6, .int i), (5, .int bB), (4, .int bA), (0, .ref (q 0)), (1, .int v), (2, .int n), (3, .int w)] := by subst ebA ebB ei; exact hl
              clear ebA ebB ei
              obtain ⟨mm40, hm40⟩ : ∃ mm : Nat, mm = (24 - i.toInt).toNat := ⟨_, rfl⟩
              refine z_cut2 hP hS hl ?_
              clear hl hP
              intro H locs ls hP hS hl
              induction mm40 using Nat.strongRecOn generalizing bA bB i H locs ls with
              | _ mm40 ih40 =>
                obtain ⟨hi, hq, ho⟩ := hv40
                refine lv_iload hx hb dX6_best_40 (lv_at hl 0 rfl) ?_
                refine lv_bipush (v := 24) hx hb dX6_best_42 (by decide) ?_
                refine lv_icmp_ge (tgt := 134) hx hb dX6_best_44 (by decide) (fun c_13 => ?_) (fun c_13 => ?_)
                · skip
                  have hc_13 := zb_le (show (24 : Int32).toInt = 24 by decide) rfl c_13
                  refine lv_iload hx hb dX6_best_134 (lv_at hl 2 rfl) ?_
                  refine lv_iconst (v := (-1)) hx hb dX6_best_136 (by decide) ?_
                  refine lv_icmp_ne (tgt := 143) hx hb dX6_best_137 (by decide) (fun c_14 => ?_) (fun c_14 => ?_)
                  · skip
                    have hc_14 := zb_ne rfl (show ((-1) : Int32).toInt = (-1) by decide) c_14
                    refine lv_iload_n hx hb dX6_best_143 rfl (lv_at hl 6 rfl) ?_
                    refine lv_if_ne (tgt := 152) hx hb dX6_best_144 (by decide) (fun c_15 => ?_) (fun c_15 => ?_)
                    · skip
                      have hc_15 := zb_ne rfl (show (0 : Int32).toInt = 0 by decide) c_15
                      refine lv_iload hx hb dX6_best_152 (lv_at hl 1 rfl) ?_
                      exact W.iret (v := bB) hx hb hr (fun t ht hW => ⟨⟨bB, (), rfl, (tBest_r (by omega) (bO_end (by omega) ho) (by rw [if_neg (by omega), if_neg (by omega)])), ⟨by rw [ht]; exact hP, hDa _⟩⟩, hS.F ht⟩) hS.2.2 dX6_best_154
                    · skip
                      have hc_15 := zb_eq rfl (show (0 : Int32).toInt = 0 by decide) c_15
                      refine lv_iload hx hb dX6_best_147 (lv_at hl 2 rfl) ?_
                      refine lv_goto (tgt := 154) hx hb dX6_best_149 (by decide) ?_
                      exact W.iret (v := bA) hx hb hr (fun t ht hW => ⟨⟨bA, (), rfl, (tBest_r (by omega) (bO_end (by omega) ho) (by rw [if_neg (by omega), if_pos (by omega)])), ⟨by rw [ht]; exact hP, hDa _⟩⟩, hS.F ht⟩) hS.2.2 dX6_best_154
                  · skip
                    have hc_14 := zb_eq rfl (show ((-1) : Int32).toInt = (-1) by decide) c_14
                    refine lv_bipush (v := (-3)) hx hb dX6_best_140 (by decide) ?_
                    exact W.iret (v := (-3)) hx hb hr (fun t ht hW => ⟨⟨(-3), (), rfl, (tBest_r (by omega) (bO_end (by omega) ho) (by rw [if_pos (by omega)]; decide)), ⟨by rw [ht]; exact hP, hDa _⟩⟩, hS.F ht⟩) hS.2.2 dX6_best_142
                · skip
                  have hc_13 := zb_nle (show (24 : Int32).toInt = 24 by decide) rfl c_13
                  refine lv_iconst (v := 1) hx hb dX6_best_47 (by decide) ?_
                  refine lv_istore (lv' := [(7, .int 1), (6, .int i), (5, .int bB), (4, .int bA), (0, .ref (q 0)), (1, .int v), (2, .int n), (3, .int w)]) hx hb dX6_best_48 hl (by decide) rfl (fun ls hl => ?_)
                  obtain ⟨cA, ecA⟩ : ∃ x : Int32, bA = x := ⟨_, rfl⟩
                  obtain ⟨cB, ecB⟩ : ∃ x : Int32, bB = x := ⟨_, rfl⟩
                  obtain ⟨j, ej⟩ : ∃ x : Int32, 1 = x := ⟨_, rfl⟩
                  have hv50 : (1 ≤ j.toInt ∧ j.toInt ≤ i.toInt) ∧ (BQ cA.toInt cB.toInt) ∧ (bO v.toInt n.toInt (24 - (i.toInt + 1)).toNat (i.toInt + 1) (bI v.toInt n.toInt i.toInt (i.toInt - j.toInt).toNat j.toInt (cA.toInt, cB.toInt)) = bR v.toInt n.toInt) := by subst ecA ecB ej; exact ⟨(show 1 ≤ (1 : Int32).toInt ∧ (1 : Int32).toInt ≤ i.toInt from ⟨by decide, by have q : (1 : Int32).toInt = 1 := (by decide); omega⟩), hq, (bO_step (by omega) (by decide) ho)⟩
                  replace hl : lv_has ls 9 [(7, .int j), (6, .int i), (5, .int cB), (4, .int cA), (0, .ref (q 0)), (1, .int v), (2, .int n), (3, .int w)] := by subst ecA ecB ej; exact hl
                  clear ecA ecB ej
                  obtain ⟨mm50, hm50⟩ : ∃ mm : Nat, mm = (24 - j.toInt).toNat := ⟨_, rfl⟩
                  refine z_cut2 hP hS hl ?_
                  clear hl hP
                  intro H locs ls hP hS hl
                  induction mm50 using Nat.strongRecOn generalizing cA cB j H locs ls with
                  | _ mm50 ih50 =>
                    obtain ⟨hj, hq2, ho2⟩ := hv50
                    refine lv_iload hx hb dX6_best_50 (lv_at hl 0 rfl) ?_
                    refine lv_iload hx hb dX6_best_52 (lv_at hl 1 rfl) ?_
                    refine lv_icmp_ge (tgt := 128) hx hb dX6_best_54 (by decide) (fun c_16 => ?_) (fun c_16 => ?_)
                    · skip
                      have hc_16 := zb_le rfl rfl c_16
                      obtain ⟨x_17, ex_17⟩ : ∃ y : Int32, y = i + 1 := ⟨_, rfl⟩
                      have hx_17 : x_17.toInt = i.toInt + 1 := z_add ex_17 rfl (show (1 : Int32).toInt = 1 by decide) (by omega)
                      refine lv_iinc (v := x_17) (lv' := [(6, .int x_17), (7, .int j), (5, .int cB), (4, .int cA), (0, .ref (q 0)), (1, .int v), (2, .int n), (3, .int w)]) hx hb dX6_best_128 hl (k := 1) rfl (by rw [ex_17]; rfl) (by decide) rfl (fun ls hl => ?_)
                      refine lv_goto (tgt := 40) hx hb dX6_best_131 (by decide) ?_
                      exact ih40 ((24 - x_17.toInt).toNat) (by omega) cA cB x_17 ⟨(show 2 ≤ x_17.toInt ∧ x_17.toInt ≤ 24 by omega), hq2, (bI_end (by omega) hx_17 ho2)⟩ rfl H locs ls hP hS (lv_sub hl [0, 2, 3, 4, 5, 6, 7] rfl)
                    · skip
                      have hc_16 := zb_nle rfl rfl c_16
                      refine lv_iload hx hb dX6_best_57 (lv_at hl 1 rfl) ?_
                      refine lv_iload_n hx hb dX6_best_59 rfl (lv_at hl 5 rfl) ?_
                      refine lv_iload hx hb dX6_best_60 (lv_at hl 0 rfl) ?_
                      refine lv_imul hx hb dX6_best_62 ?_
                      refine lv_topi (fun x_18 ex_18 => ?_)
                      have qx_18 := z_mulb (a := v.toInt) (b := j.toInt) (A := 30) (B := 23) (by omega) (by omega)
                      have hx_18 := z_mul ex_18 rfl rfl (by omega)
                      refine lv_icmp_gt (tgt := 85) hx hb dX6_best_63 (by decide) (fun c_19 => ?_) (fun c_19 => ?_)
                      · skip
                        have hc_19 := zb_lt rfl rfl c_19
                        refine lv_iconst (v := 0) hx hb dX6_best_85 (by decide) ?_
                        refine lv_istore (lv' := [(8, .int 0), (7, .int j), (6, .int i), (5, .int cB), (4, .int cA), (0, .ref (q 0)), (1, .int v), (2, .int n), (3, .int w)]) hx hb dX6_best_86 hl (by decide) rfl (fun ls hl => ?_)
                        refine lv_iload hx hb dX6_best_88 (lv_at hl 0 rfl) ?_
                        refine lv_if_eq (tgt := 122) hx hb dX6_best_90 (by decide) (fun c_20 => ?_) (fun c_20 => ?_)
                        · skip
                          obtain ⟨x_21, ex_21⟩ : ∃ y : Int32, y = j + 1 := ⟨_, rfl⟩
                          have hx_21 : x_21.toInt = j.toInt + 1 := z_add ex_21 rfl (show (1 : Int32).toInt = 1 by decide) (by omega)
                          refine lv_iinc (v := x_21) (lv' := [(7, .int x_21), (8, .int 0), (6, .int i), (5, .int cB), (4, .int cA), (0, .ref (q 0)), (1, .int v), (2, .int n), (3, .int w)]) hx hb dX6_best_122 hl (k := 1) rfl (by rw [ex_21]; rfl) (by decide) rfl (fun ls hl => ?_)
                          refine lv_goto (tgt := 50) hx hb dX6_best_125 (by decide) ?_
                          exact ih50 ((24 - x_21.toInt).toNat) (by omega) cA cB x_21 ⟨(show 1 ≤ x_21.toInt ∧ x_21.toInt ≤ i.toInt by omega), hq2, (bI_next (by omega) hx_21 (bst_n1 (by omega)) ho2)⟩ rfl H locs ls hP hS (lv_sub hl [0, 2, 3, 4, 5, 6, 7, 8] rfl)
                        · skip
                          exact absurd (by decide) c_20
                      · skip
                        have hc_19 := zb_nlt rfl rfl c_19
                        refine lv_bipush (v := 24) hx hb dX6_best_66 (by decide) ?_
                        refine lv_iload hx hb dX6_best_68 (lv_at hl 0 rfl) ?_
                        refine lv_isub hx hb dX6_best_70 ?_
                        refine lv_topi (fun x_22 ex_22 => ?_)
                        have hx_22 := z_sub ex_22 (show (24 : Int32).toInt = 24 by decide) rfl (by omega)
                        refine lv_iload_n hx hb dX6_best_71 rfl (lv_at hl 5 rfl) ?_
                        refine lv_bipush (v := 24) hx hb dX6_best_72 (by decide) ?_
                        refine lv_iload hx hb dX6_best_74 (lv_at hl 1 rfl) ?_
                        refine lv_isub hx hb dX6_best_76 ?_
                        refine lv_topi (fun x_23 ex_23 => ?_)
                        have hx_23 := z_sub ex_23 (show (24 : Int32).toInt = 24 by decide) rfl (by omega)
                        refine lv_imul hx hb dX6_best_77 ?_
                        refine lv_topi (fun x_24 ex_24 => ?_)
                        have qx_24 := z_mulb (a := v.toInt) (b := x_23.toInt) (A := 30) (B := 22) (by omega) (by omega)
                        have hx_24 := z_mul ex_24 rfl rfl (by omega)
                        rw [hx_23] at hx_24
                        refine lv_icmp_gt (tgt := 85) hx hb dX6_best_78 (by decide) (fun c_25 => ?_) (fun c_25 => ?_)
                        · skip
                          have hc_25 := zb_lt rfl rfl c_25
                          refine lv_iconst (v := 0) hx hb dX6_best_85 (by decide) ?_
                          refine lv_istore (lv' := [(8, .int 0), (7, .int j), (6, .int i), (5, .int cB), (4, .int cA), (0, .ref (q 0)), (1, .int v), (2, .int n), (3, .int w)]) hx hb dX6_best_86 hl (by decide) rfl (fun ls hl => ?_)
                          refine lv_iload hx hb dX6_best_88 (lv_at hl 0 rfl) ?_
                          refine lv_if_eq (tgt := 122) hx hb dX6_best_90 (by decide) (fun c_26 => ?_) (fun c_26 => ?_)
                          · skip
                            obtain ⟨x_27, ex_27⟩ : ∃ y : Int32, y = j + 1 := ⟨_, rfl⟩
                            have hx_27 : x_27.toInt = j.toInt + 1 := z_add ex_27 rfl (show (1 : Int32).toInt = 1 by decide) (by omega)
                            refine lv_iinc (v := x_27) (lv' := [(7, .int x_27), (8, .int 0), (6, .int i), (5, .int cB), (4, .int cA), (0, .ref (q 0)), (1, .int v), (2, .int n), (3, .int w)]) hx hb dX6_best_122 hl (k := 1) rfl (by rw [ex_27]; rfl) (by decide) rfl (fun ls hl => ?_)
                            refine lv_goto (tgt := 50) hx hb dX6_best_125 (by decide) ?_
                            exact ih50 ((24 - x_27.toInt).toNat) (by omega) cA cB x_27 ⟨(show 1 ≤ x_27.toInt ∧ x_27.toInt ≤ i.toInt by omega), hq2, (bI_next (by omega) hx_27 (bst_n2 (by omega)) ho2)⟩ rfl H locs ls hP hS (lv_sub hl [0, 2, 3, 4, 5, 6, 7, 8] rfl)
                          · skip
                            exact absurd (by decide) c_26
                        · skip
                          have hc_25 := zb_nlt rfl rfl c_25
                          have hwi := bWi_y (v := v.toInt) (a := i.toInt) (b := j.toInt) (by omega) (by omega)
                          refine lv_iconst (v := 1) hx hb dX6_best_81 (by decide) ?_
                          refine lv_goto (tgt := 86) hx hb dX6_best_82 (by decide) ?_
                          refine lv_istore (lv' := [(8, .int 1), (7, .int j), (6, .int i), (5, .int cB), (4, .int cA), (0, .ref (q 0)), (1, .int v), (2, .int n), (3, .int w)]) hx hb dX6_best_86 hl (by decide) rfl (fun ls hl => ?_)
                          refine lv_iload hx hb dX6_best_88 (lv_at hl 0 rfl) ?_
                          refine lv_if_eq (tgt := 122) hx hb dX6_best_90 (by decide) (fun c_28 => ?_) (fun c_28 => ?_)
                          · skip
                            exact absurd c_28 (by decide)
                          · skip
                            refine lv_iload hx hb dX6_best_93 (lv_at hl 4 rfl) ?_
                            refine lv_iconst (v := (-1)) hx hb dX6_best_95 (by decide) ?_
                            refine lv_icmp_eq (tgt := 114) hx hb dX6_best_96 (by decide) (fun c_29 => ?_) (fun c_29 => ?_)
                            · skip
                              have hc_29 := zb_eq rfl (show ((-1) : Int32).toInt = (-1) by decide) c_29
                              refine lv_iload hx hb dX6_best_114 (lv_at hl 2 rfl) ?_
                              refine lv_istore (lv' := [(4, .int i), (8, .int 1), (7, .int j), (6, .int i), (5, .int cB), (0, .ref (q 0)), (1, .int v), (2, .int n), (3, .int w)]) hx hb dX6_best_116 hl (by decide) rfl (fun ls hl => ?_)
                              refine lv_iload hx hb dX6_best_118 (lv_at hl 2 rfl) ?_
                              refine lv_istore (lv' := [(5, .int j), (4, .int i), (8, .int 1), (7, .int j), (6, .int i), (0, .ref (q 0)), (1, .int v), (2, .int n), (3, .int w)]) hx hb dX6_best_120 hl (by decide) rfl (fun ls hl => ?_)
                              obtain ⟨x_30, ex_30⟩ : ∃ y : Int32, y = j + 1 := ⟨_, rfl⟩
                              have hx_30 : x_30.toInt = j.toInt + 1 := z_add ex_30 rfl (show (1 : Int32).toInt = 1 by decide) (by omega)
                              refine lv_iinc (v := x_30) (lv' := [(7, .int x_30), (5, .int j), (4, .int i), (8, .int 1), (6, .int i), (0, .ref (q 0)), (1, .int v), (2, .int n), (3, .int w)]) hx hb dX6_best_122 hl (k := 3) rfl (by rw [ex_30]; rfl) (by decide) rfl (fun ls hl => ?_)
                              refine lv_goto (tgt := 50) hx hb dX6_best_125 (by decide) ?_
                              exact ih50 ((24 - x_30.toInt).toNat) (by omega) i j x_30 ⟨(show 1 ≤ x_30.toInt ∧ x_30.toInt ≤ i.toInt by omega), (Or.inr ⟨by omega, by omega, by omega⟩), (bI_next (by omega) hx_30 (bst_p hwi (Or.inl (by omega))) ho2)⟩ rfl H locs ls hP hS (lv_sub hl [0, 4, 1, 2, 5, 6, 7, 8] rfl)
                            · skip
                              have hc_29 := zb_ne rfl (show ((-1) : Int32).toInt = (-1) by decide) c_29
                              have hq3 : 1 ≤ cB.toInt ∧ cB.toInt < cA.toInt ∧ cA.toInt ≤ 23 := hq2.resolve_left (fun q => hc_29 q.1)
                              refine lv_iload hx hb dX6_best_99 (lv_at hl 2 rfl) ?_
                              refine lv_iload hx hb dX6_best_101 (lv_at hl 1 rfl) ?_
                              refine lv_iload hx hb dX6_best_103 (lv_at hl 4 rfl) ?_
                              refine lv_iload hx hb dX6_best_105 (lv_at hl 3 rfl) ?_
                              refine lv_iload_n hx hb dX6_best_107 rfl (lv_at hl 7 rfl) ?_
                              refine zc0_i (w := (zX k q z)) (va_runS (As := [.int i, .int j, .int cA, .int cB, .int n]) (rest := []) ⟨hx, hb, hml, hown, htb⟩ (c_X6_scattersLess l dC dI k i j cA cB n _ (by omega) (by omega) (by omega)) (va_cwS 5 htb (gzS wmt3_58 wmt3_59 wmt1_1 wmt3_60) rfl rfl rfl (by decide +kernel) ⟨Nat.le_of_ble_eq_true rfl, Nat.le_of_ble_eq_true rfl⟩) (zp0_S hK) rfl rfl hl.1 rfl (lv_room (Nat.le_of_ble_eq_true rfl)) dX6_best_108 ⟨Nat.le_of_ble_eq_true rfl, Nat.le_of_ble_eq_true rfl⟩) hP hS hA (fun r_31 u_32 H locs w_33 hP hS => ?_)
                              rcases w_33 with ⟨e_35, h_34⟩ | ⟨e_37, h_36⟩
                              · skip
                                replace e_35 : r_31 = 1 := e_35
                                subst e_35
                                replace h_34 : bLs n.toInt i.toInt j.toInt cA.toInt cB.toInt := h_34
                                have hls := h_34
                                refine lv_if_eq (tgt := 122) hx hb dX6_best_111 (by decide) (fun c_38 => ?_) (fun c_38 => ?_)
                                · skip
                                  exact absurd c_38 (by decide)
                                · skip
                                  refine lv_iload hx hb dX6_best_114 (lv_at hl 2 rfl) ?_
                                  refine lv_istore (lv' := [(4, .int i), (8, .int 1), (7, .int j), (6, .int i), (5, .int cB), (0, .ref (q 0)), (1, .int v), (2, .int n), (3, .int w)]) hx hb dX6_best_116 hl (by decide) rfl (fun ls hl => ?_)
                                  refine lv_iload hx hb dX6_best_118 (lv_at hl 2 rfl) ?_
                                  refine lv_istore (lv' := [(5, .int j), (4, .int i), (8, .int 1), (7, .int j), (6, .int i), (0, .ref (q 0)), (1, .int v), (2, .int n), (3, .int w)]) hx hb dX6_best_120 hl (by decide) rfl (fun ls hl => ?_)
                                  obtain ⟨x_39, ex_39⟩ : ∃ y : Int32, y = j + 1 := ⟨_, rfl⟩
                                  have hx_39 : x_39.toInt = j.toInt + 1 := z_add ex_39 rfl (show (1 : Int32).toInt = 1 by decide) (by omega)
                                  refine lv_iinc (v := x_39) (lv' := [(7, .int x_39), (5, .int j), (4, .int i), (8, .int 1), (6, .int i), (0, .ref (q 0)), (1, .int v), (2, .int n), (3, .int w)]) hx hb dX6_best_122 hl (k := 3) rfl (by rw [ex_39]; rfl) (by decide) rfl (fun ls hl => ?_)
                                  refine lv_goto (tgt := 50) hx hb dX6_best_125 (by decide) ?_
                                  exact ih50 ((24 - x_39.toInt).toNat) (by omega) i j x_39 ⟨(show 1 ≤ x_39.toInt ∧ x_39.toInt ≤ i.toInt by omega), (Or.inr ⟨by omega, by omega, by omega⟩), (bI_next (by omega) hx_39 (bst_p hwi (Or.inr hls)) ho2)⟩ rfl H locs ls hP hS (lv_sub hl [0, 4, 1, 2, 5, 6, 7, 8] rfl)
                              · skip
                                replace e_37 : r_31 = 0 := e_37
                                subst e_37
                                replace h_36 : ¬ bLs n.toInt i.toInt j.toInt cA.toInt cB.toInt := h_36
                                have hls := h_36
                                refine lv_if_eq (tgt := 122) hx hb dX6_best_111 (by decide) (fun c_40 => ?_) (fun c_40 => ?_)
                                · skip
                                  obtain ⟨x_41, ex_41⟩ : ∃ y : Int32, y = j + 1 := ⟨_, rfl⟩
                                  have hx_41 : x_41.toInt = j.toInt + 1 := z_add ex_41 rfl (show (1 : Int32).toInt = 1 by decide) (by omega)
                                  refine lv_iinc (v := x_41) (lv' := [(7, .int x_41), (8, .int 1), (6, .int i), (5, .int cB), (4, .int cA), (0, .ref (q 0)), (1, .int v), (2, .int n), (3, .int w)]) hx hb dX6_best_122 hl (k := 1) rfl (by rw [ex_41]; rfl) (by decide) rfl (fun ls hl => ?_)
                                  refine lv_goto (tgt := 50) hx hb dX6_best_125 (by decide) ?_
                                  exact ih50 ((24 - x_41.toInt).toNat) (by omega) cA cB x_41 ⟨(show 1 ≤ x_41.toInt ∧ x_41.toInt ≤ i.toInt by omega), hq2, (bI_next (by omega) hx_41 (bst_n3 (by omega) hls) ho2)⟩ rfl H locs ls hP hS (lv_sub hl [0, 2, 3, 4, 5, 6, 7, 8] rfl)
                                · skip
                                  exact absurd (by decide) c_40
            · skip
              exact absurd c_12 (by decide)
          · skip
            replace e_11 : r_5 = 0 := e_11
            subst e_11
            replace h_10 : ¬ (0 ≤ w.toInt ∧ w.toInt < 2) := h_10
            refine lv_if_ne (tgt := 31) hx hb dX6_best_25 (by decide) (fun c_42 => ?_) (fun c_42 => ?_)
            · skip
              exact absurd c_42 (by decide)
            · skip
              refine lv_bipush (v := (-2)) hx hb dX6_best_28 (by decide) ?_
              exact W.iret (v := (-2)) hx hb hr (fun t ht hW => ⟨⟨(-2), (), rfl, (tBest_bad (by omega)), ⟨by rw [ht]; exact hP, hDa _⟩⟩, hS.F ht⟩) hS.2.2 dX6_best_30
