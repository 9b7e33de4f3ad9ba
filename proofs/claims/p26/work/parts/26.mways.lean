set_option maxHeartbeats 4000000 in
set_option maxRecDepth 100000 in
theorem c_X7_power (l : Launch) (dC : Nat → ClassId) (dI : Nat → Nat → Nat) (k : Nat → ClassId) (x0 : Int64) (n : Int32) (sz : Nat) (hn : n.toInt ≤ 120) : Met l yX7_power (wz yX7_power cX7_power 6 (some .long)) ({ frames := 0, cells := 0, slots := 0, locals := 0 }) (va_Pc [.long x0, .int n] (zPre dC dI k (zTX k) [] sz)) (va_Ql (fun (r : Int64) (u : Unit) => True) (fun u t => zPost dC dI (va_A [] sz) [] t) (va_A [] sz)) 0 0 (va_A [] sz) := by
  refine Met.ofW (cc := cX7_power) (maxL := 6) (ret := (some .long)) (by decide) rfl ?_
  intro p e s m args below meth c s₁ B hml hv
  obtain ⟨rfl, hsz, hP, hK, hD0⟩ := hv
  have hx := B.exec
  have hb := B.bytes
  have hr := B.returns
  have hts := atoms_spec (ws := wz yX7_power cX7_power 6 (some .long)) B.pre
  have htb : ∀ w ∈ zw, w.before _ s = true := fun w h => hts w (List.mem_cons_of_mem _ h)
  have hown : s.vm.findClass RX7 = some m.cls := findClass_of_methodNamed B.named
  have hlocks := B.notSynchronized
  clear hts
  subst hsz
  have hD := hD0.self (sz := s.heap.size)
  generalize hAe : va_A [] s.heap.size = A at hD ⊢
  have hA : ∀ q : Nat, s.heap.size ≤ q → A q := fun q h => by rw [← hAe]; exact Or.inr h
  have hl := lv_entry ([.long x0, .int n]) (n := 6) (Nat.le_of_ble_eq_true rfl)
  rw [lg_entry_eq]
  generalize (lg_sl ([.long x0, .int n]) ++ List.replicate (6 - (lg_sl ([.long x0, .int n])).length) Slot.unset).toArray = ls at hl ⊢
  have hl : lv_has ls 6 [(0, .long x0), (2, .int n)] := hl
  refine z_start2 (A := A) (w := []) hP (fun H locs hP hS => ?_)
  clear hD0 hAe
  refine lv_lconst (v := 1) hx hb dX7_power_0 (by decide) ?_
  refine lv_lstore_n (lv' := [(3, .long 1), (0, .long x0), (2, .int n)]) hx hb dX7_power_1 rfl hl (by decide) rfl (fun ls hl => ?_)
  refine lv_iconst (v := 0) hx hb dX7_power_2 (by decide) ?_
  refine lv_istore (lv' := [(5, .int 0), (3, .long 1), (0, .long x0), (2, .int n)]) hx hb dX7_power_3 hl (by decide) rfl (fun ls hl => ?_)
  obtain ⟨by_, eby_⟩ : ∃ x : Int64, 1 = x := ⟨_, rfl⟩
  obtain ⟨i, ei⟩ : ∃ x : Int32, 0 = x := ⟨_, rfl⟩
  have hv5 : (0 ≤ i.toInt ∧ (i.toInt ≤ n.toInt ∨ i.toInt = 0)) := by subst eby_ ei; exact ⟨by decide, Or.inr (by decide)⟩
  replace hl : lv_has ls 6 [(5, .int i), (3, .long by_), (0, .long x0), (2, .int n)] := by subst eby_ ei; exact hl
  clear eby_ ei
  obtain ⟨mm5, hm5⟩ : ∃ mm : Nat, mm = (120 - i.toInt).toNat := ⟨_, rfl⟩
  refine z_cut2 hP hS hl ?_
  clear hl hP
  intro H locs ls hP hS hl
  induction mm5 using Nat.strongRecOn generalizing by_ i H locs ls with
  | _ mm5 ih5 =>
    have hi := hv5
    refine lv_iload hx hb dX7_power_5 (lv_at hl 0 rfl) ?_
    refine lv_iload_n hx hb dX7_power_7 rfl (lv_at hl 3 rfl) ?_
    refine lv_icmp_ge (tgt := 21) hx hb dX7_power_8 (by decide) (fun c_1 => ?_) (fun c_1 => ?_)
    · skip
      have hc_1 := zb_le rfl rfl c_1
      refine lv_lload_n hx hb dX7_power_21 rfl (lv_at hl 1 rfl) ?_
      exact W.lret (v := by_) hx hb hr (fun t ht hW => ⟨⟨by_, (), rfl, trivial, ⟨by rw [ht]; exact hP, hD⟩⟩, hS.F ht⟩) hS.2.2 dX7_power_22
    · skip
      have hc_1 := zb_nle rfl rfl c_1
      refine lv_lload_n hx hb dX7_power_11 rfl (lv_at hl 1 rfl) ?_
      refine lv_lload_n hx hb dX7_power_12 rfl (lv_at hl 2 rfl) ?_
      refine lv_lmul hx hb dX7_power_13 ?_
      refine lv_topl (fun x_2 ex_2 => ?_)
      refine lv_lstore_n (lv' := [(3, .long x_2), (5, .int i), (0, .long x0), (2, .int n)]) hx hb dX7_power_14 rfl hl (by decide) rfl (fun ls hl => ?_)
      obtain ⟨x_3, ex_3⟩ : ∃ y : Int32, y = i + 1 := ⟨_, rfl⟩
      have hx_3 : x_3.toInt = i.toInt + 1 := z_add ex_3 rfl (show (1 : Int32).toInt = 1 by decide) (by omega)
      refine lv_iinc (v := x_3) (lv' := [(5, .int x_3), (3, .long x_2), (0, .long x0), (2, .int n)]) hx hb dX7_power_15 hl (k := 1) rfl (by rw [ex_3]; rfl) (by decide) rfl (fun ls hl => ?_)
      refine lv_goto (tgt := 5) hx hb dX7_power_18 (by decide) ?_
      exact ih5 ((120 - x_3.toInt).toNat) (by omega) x_2 x_3 (show 0 ≤ x_3.toInt ∧ (x_3.toInt ≤ n.toInt ∨ x_3.toInt = 0) by omega) rfl H locs ls hP hS (lv_sub hl [0, 1, 2, 3] rfl)
set_option maxHeartbeats 4000000 in
set_option maxRecDepth 100000 in
theorem c_X7_power_pos (l : Launch) (dC : Nat → ClassId) (dI : Nat → Nat → Nat) (k : Nat → ClassId) (x0 : Int64) (n : Int32) (sz : Nat) (hv : 1 ≤ x0.toInt ∧ x0.toInt ≤ 24) (hn : 0 ≤ n.toInt ∧ n.toInt ≤ 12) : Met l yX7_power (wz yX7_power cX7_power 6 (some .long)) ({ frames := 0, cells := 0, slots := 0, locals := 0 }) (va_Pc [.long x0, .int n] (zPre dC dI k (zTX k) [] sz)) (va_Ql (fun (r : Int64) (u : Unit) => (1 ≤ r.toInt)) (fun u t => zPost dC dI (va_A [] sz) [] t) (va_A [] sz)) 0 0 (va_A [] sz) := by
  refine Met.ofW (cc := cX7_power) (maxL := 6) (ret := (some .long)) (by decide) rfl ?_
  intro p e s m args below meth c s₁ B hml hv
  obtain ⟨rfl, hsz, hP, hK, hD0⟩ := hv
  have hx := B.exec
  have hb := B.bytes
  have hr := B.returns
  have hts := atoms_spec (ws := wz yX7_power cX7_power 6 (some .long)) B.pre
  have htb : ∀ w ∈ zw, w.before _ s = true := fun w h => hts w (List.mem_cons_of_mem _ h)
  have hown : s.vm.findClass RX7 = some m.cls := findClass_of_methodNamed B.named
  have hlocks := B.notSynchronized
  clear hts
  subst hsz
  have hD := hD0.self (sz := s.heap.size)
  generalize hAe : va_A [] s.heap.size = A at hD ⊢
  have hA : ∀ q : Nat, s.heap.size ≤ q → A q := fun q h => by rw [← hAe]; exact Or.inr h
  have hl := lv_entry ([.long x0, .int n]) (n := 6) (Nat.le_of_ble_eq_true rfl)
  rw [lg_entry_eq]
  generalize (lg_sl ([.long x0, .int n]) ++ List.replicate (6 - (lg_sl ([.long x0, .int n])).length) Slot.unset).toArray = ls at hl ⊢
  have hl : lv_has ls 6 [(0, .long x0), (2, .int n)] := hl
  refine z_start2 (A := A) (w := []) hP (fun H locs hP hS => ?_)
  clear hD0 hAe
  refine lv_lconst (v := 1) hx hb dX7_power_0 (by decide) ?_
  refine lv_lstore_n (lv' := [(3, .long 1), (0, .long x0), (2, .int n)]) hx hb dX7_power_1 rfl hl (by decide) rfl (fun ls hl => ?_)
  refine lv_iconst (v := 0) hx hb dX7_power_2 (by decide) ?_
  refine lv_istore (lv' := [(5, .int 0), (3, .long 1), (0, .long x0), (2, .int n)]) hx hb dX7_power_3 hl (by decide) rfl (fun ls hl => ?_)
  obtain ⟨by_, eby_⟩ : ∃ x : Int64, 1 = x := ⟨_, rfl⟩
  obtain ⟨i, ei⟩ : ∃ x : Int32, 0 = x := ⟨_, rfl⟩
  have hv5 : (0 ≤ i.toInt ∧ i.toInt ≤ n.toInt) ∧ (by_.toInt = x0.toInt ^ i.toNatClampNeg) := by subst eby_ ei; exact ⟨⟨by decide, by have q : (0 : Int32).toInt = 0 := (by decide); omega⟩, (show (1 : Int64).toInt = x0.toInt ^ (0 : Int32).toNatClampNeg by rw [show (0 : Int32).toNatClampNeg = 0 by decide, Int.pow_zero]; decide)⟩
  replace hl : lv_has ls 6 [(5, .int i), (3, .long by_), (0, .long x0), (2, .int n)] := by subst eby_ ei; exact hl
  clear eby_ ei
  obtain ⟨mm5, hm5⟩ : ∃ mm : Nat, mm = (12 - i.toInt).toNat := ⟨_, rfl⟩
  refine z_cut2 hP hS hl ?_
  clear hl hP
  intro H locs ls hP hS hl
  induction mm5 using Nat.strongRecOn generalizing by_ i H locs ls with
  | _ mm5 ih5 =>
    obtain ⟨hi, hp⟩ := hv5
    refine lv_iload hx hb dX7_power_5 (lv_at hl 0 rfl) ?_
    refine lv_iload_n hx hb dX7_power_7 rfl (lv_at hl 3 rfl) ?_
    refine lv_icmp_ge (tgt := 21) hx hb dX7_power_8 (by decide) (fun c_1 => ?_) (fun c_1 => ?_)
    · skip
      have hc_1 := zb_le rfl rfl c_1
      refine lv_lload_n hx hb dX7_power_21 rfl (lv_at hl 1 rfl) ?_
      exact W.lret (v := by_) hx hb hr (fun t ht hW => ⟨⟨by_, (), rfl, (by have q := z_pow12 hv (n := i.toNatClampNeg) (by have e := z_clamp hi.1; omega); rw [← hp] at q; exact q.1), ⟨by rw [ht]; exact hP, hD⟩⟩, hS.F ht⟩) hS.2.2 dX7_power_22
    · skip
      have hc_1 := zb_nle rfl rfl c_1
      refine lv_lload_n hx hb dX7_power_11 rfl (lv_at hl 1 rfl) ?_
      refine lv_lload_n hx hb dX7_power_12 rfl (lv_at hl 2 rfl) ?_
      refine lv_lmul hx hb dX7_power_13 ?_
      refine lv_topl (fun x_2 ex_2 => ?_)
      refine lv_lstore_n (lv' := [(3, .long x_2), (5, .int i), (0, .long x0), (2, .int n)]) hx hb dX7_power_14 rfl hl (by decide) rfl (fun ls hl => ?_)
      obtain ⟨x_3, ex_3⟩ : ∃ y : Int32, y = i + 1 := ⟨_, rfl⟩
      have hx_3 : x_3.toInt = i.toInt + 1 := z_add ex_3 rfl (show (1 : Int32).toInt = 1 by decide) (by omega)
      refine lv_iinc (v := x_3) (lv' := [(5, .int x_3), (3, .long x_2), (0, .long x0), (2, .int n)]) hx hb dX7_power_15 hl (k := 1) rfl (by rw [ex_3]; rfl) (by decide) rfl (fun ls hl => ?_)
      refine lv_goto (tgt := 5) hx hb dX7_power_18 (by decide) ?_
      exact ih5 ((12 - x_3.toInt).toNat) (by omega) x_2 x_3 ⟨(show 0 ≤ x_3.toInt ∧ x_3.toInt ≤ n.toInt by omega), (z_powstep hv hp hi.1 (by omega) ex_2 hx_3)⟩ rfl H locs ls hP hS (lv_sub hl [0, 1, 2, 3] rfl)
set_option maxHeartbeats 4000000 in
set_option maxRecDepth 100000 in
theorem c_X7_choose (l : Launch) (dC : Nat → ClassId) (dI : Nat → Nat → Nat) (k : Nat → ClassId) (n : Int32) (kk : Int32) (sz : Nat) (hk : kk.toInt ≤ 120) : Met l yX7_choose (wz yX7_choose cX7_choose 5 (some .long)) ({ frames := 0, cells := 0, slots := 0, locals := 0 }) (va_Pc [.int n, .int kk] (zPre dC dI k (zTX k) [] sz)) (va_Ql (fun (r : Int64) (u : Unit) => True) (fun u t => zPost dC dI (va_A [] sz) [] t) (va_A [] sz)) 0 0 (va_A [] sz) := by
  refine Met.ofW (cc := cX7_choose) (maxL := 5) (ret := (some .long)) (by decide) rfl ?_
  intro p e s m args below meth c s₁ B hml hv
  obtain ⟨rfl, hsz, hP, hK, hD0⟩ := hv
  have hx := B.exec
  have hb := B.bytes
  have hr := B.returns
  have hts := atoms_spec (ws := wz yX7_choose cX7_choose 5 (some .long)) B.pre
  have htb : ∀ w ∈ zw, w.before _ s = true := fun w h => hts w (List.mem_cons_of_mem _ h)
  have hown : s.vm.findClass RX7 = some m.cls := findClass_of_methodNamed B.named
  have hlocks := B.notSynchronized
  clear hts
  subst hsz
  have hD := hD0.self (sz := s.heap.size)
  generalize hAe : va_A [] s.heap.size = A at hD ⊢
  have hA : ∀ q : Nat, s.heap.size ≤ q → A q := fun q h => by rw [← hAe]; exact Or.inr h
  have hl := lv_entry ([.int n, .int kk]) (n := 5) (Nat.le_of_ble_eq_true rfl)
  rw [lg_entry_eq]
  generalize (lg_sl ([.int n, .int kk]) ++ List.replicate (5 - (lg_sl ([.int n, .int kk])).length) Slot.unset).toArray = ls at hl ⊢
  have hl : lv_has ls 5 [(0, .int n), (1, .int kk)] := hl
  refine z_start2 (A := A) (w := []) hP (fun H locs hP hS => ?_)
  clear hD0 hAe
  refine lv_lconst (v := 1) hx hb dX7_choose_0 (by decide) ?_
  refine lv_lstore_n (lv' := [(2, .long 1), (0, .int n), (1, .int kk)]) hx hb dX7_choose_1 rfl hl (by decide) rfl (fun ls hl => ?_)
  refine lv_iconst (v := 1) hx hb dX7_choose_2 (by decide) ?_
  refine lv_istore (lv' := [(4, .int 1), (2, .long 1), (0, .int n), (1, .int kk)]) hx hb dX7_choose_3 hl (by decide) rfl (fun ls hl => ?_)
  obtain ⟨by_, eby_⟩ : ∃ x : Int64, 1 = x := ⟨_, rfl⟩
  obtain ⟨i, ei⟩ : ∃ x : Int32, 1 = x := ⟨_, rfl⟩
  have hv5 : (1 ≤ i.toInt ∧ (i.toInt ≤ kk.toInt + 1 ∨ i.toInt = 1)) := by subst eby_ ei; exact ⟨by decide, Or.inr (by decide)⟩
  replace hl : lv_has ls 5 [(4, .int i), (2, .long by_), (0, .int n), (1, .int kk)] := by subst eby_ ei; exact hl
  clear eby_ ei
  obtain ⟨mm5, hm5⟩ : ∃ mm : Nat, mm = (122 - i.toInt).toNat := ⟨_, rfl⟩
  refine z_cut2 hP hS hl ?_
  clear hl hP
  intro H locs ls hP hS hl
  induction mm5 using Nat.strongRecOn generalizing by_ i H locs ls with
  | _ mm5 ih5 =>
    have hi := hv5
    refine lv_iload hx hb dX7_choose_5 (lv_at hl 0 rfl) ?_
    refine lv_iload_n hx hb dX7_choose_7 rfl (lv_at hl 3 rfl) ?_
    refine lv_icmp_gt (tgt := 31) hx hb dX7_choose_8 (by decide) (fun c_1 => ?_) (fun c_1 => ?_)
    · skip
      have hc_1 := zb_lt rfl rfl c_1
      refine lv_lload_n hx hb dX7_choose_31 rfl (lv_at hl 1 rfl) ?_
      exact W.lret (v := by_) hx hb hr (fun t ht hW => ⟨⟨by_, (), rfl, trivial, ⟨by rw [ht]; exact hP, hD⟩⟩, hS.F ht⟩) hS.2.2 dX7_choose_32
    · skip
      have hc_1 := zb_nlt rfl rfl c_1
      refine lv_lload_n hx hb dX7_choose_11 rfl (lv_at hl 1 rfl) ?_
      refine lv_iload_n hx hb dX7_choose_12 rfl (lv_at hl 2 rfl) ?_
      refine lv_iload_n hx hb dX7_choose_13 rfl (lv_at hl 3 rfl) ?_
      refine lv_isub hx hb dX7_choose_14 ?_
      refine lv_topi (fun x_2 ex_2 => ?_)
      refine lv_iload hx hb dX7_choose_15 (lv_at hl 0 rfl) ?_
      refine lv_iadd hx hb dX7_choose_17 ?_
      refine lv_topi (fun x_3 ex_3 => ?_)
      refine lv_i2l (v := x_3.toInt64) hx hb dX7_choose_18 rfl ?_
      refine lv_topl (fun x_4 ex_4 => ?_)
      have hx_4 : x_4.toInt = x_3.toInt := by rw [ex_4]; exact Jvm.Kit.i64_of_i32 _
      refine lv_lmul hx hb dX7_choose_19 ?_
      refine lv_topl (fun x_5 ex_5 => ?_)
      refine lv_iload hx hb dX7_choose_20 (lv_at hl 0 rfl) ?_
      refine lv_i2l (v := i.toInt64) hx hb dX7_choose_22 rfl ?_
      refine lv_topl (fun x_6 ex_6 => ?_)
      have hx_6 : x_6.toInt = i.toInt := by rw [ex_6]; exact Jvm.Kit.i64_of_i32 _
      refine lv_ldiv hx hb dX7_choose_23 (z_l0ne (by omega)) ?_
      refine lv_topl (fun x_7 ex_7 => ?_)
      refine lv_lstore_n (lv' := [(2, .long x_7), (4, .int i), (0, .int n), (1, .int kk)]) hx hb dX7_choose_24 rfl hl (by decide) rfl (fun ls hl => ?_)
      obtain ⟨x_8, ex_8⟩ : ∃ y : Int32, y = i + 1 := ⟨_, rfl⟩
      have hx_8 : x_8.toInt = i.toInt + 1 := z_add ex_8 rfl (show (1 : Int32).toInt = 1 by decide) (by omega)
      refine lv_iinc (v := x_8) (lv' := [(4, .int x_8), (2, .long x_7), (0, .int n), (1, .int kk)]) hx hb dX7_choose_25 hl (k := 1) rfl (by rw [ex_8]; rfl) (by decide) rfl (fun ls hl => ?_)
      refine lv_goto (tgt := 5) hx hb dX7_choose_28 (by decide) ?_
      exact ih5 ((122 - x_8.toInt).toNat) (by omega) x_7 x_8 (show 1 ≤ x_8.toInt ∧ (x_8.toInt ≤ kk.toInt + 1 ∨ x_8.toInt = 1) by omega) rfl H locs ls hP hS (lv_sub hl [0, 1, 2, 3] rfl)
set_option maxHeartbeats 4000000 in
set_option maxRecDepth 100000 in
theorem c_X7_waysOf (l : Launch) (dC : Nat → ClassId) (dI : Nat → Nat → Nat) (k : Nat → ClassId) (q : Nat → Nat) (z : ZS) (n : Int32) (kk : Int32) (y : Int32) (sz : Nat) (hn : 0 ≤ kk.toInt ∧ kk.toInt ≤ n.toInt ∧ n.toInt ≤ 12) (hy : 0 ≤ y.toInt ∧ y.toInt ≤ 1000) : Met l yX7_waysOf (wz yX7_waysOf cX7_waysOf 12 (some .long)) ({ frames := 1, cells := 0, slots := 0, locals := 25 }) (va_Pc [.ref (q 0), .int n, .int kk, .int y] (zPre dC dI k (zTX k) (zM k q z) sz)) (va_Ql (fun (r : Int64) (u : Unit) => True) (fun u t => zPost dC dI (va_A (zM k q z) sz) (zM k q z) t) (va_A (zM k q z) sz)) 0 0 (va_A (zM k q z) sz) := by
  refine Met.ofW (cc := cX7_waysOf) (maxL := 12) (ret := (some .long)) (by decide) rfl ?_
  intro p e s m args below meth c s₁ B hml hv
  obtain ⟨rfl, hsz, hP, hK, hD0⟩ := hv
  have hx := B.exec
  have hb := B.bytes
  have hr := B.returns
  have hts := atoms_spec (ws := wz yX7_waysOf cX7_waysOf 12 (some .long)) B.pre
  have htb : ∀ w ∈ zw, w.before _ s = true := fun w h => hts w (List.mem_cons_of_mem _ h)
  have hown : s.vm.findClass RX7 = some m.cls := findClass_of_methodNamed B.named
  have hlocks := B.notSynchronized
  clear hts
  subst hsz
  have hD := hD0.self (sz := s.heap.size)
  generalize hAe : va_A (zM k q z) s.heap.size = A at hD ⊢
  have hA : ∀ q : Nat, s.heap.size ≤ q → A q := fun q h => by rw [← hAe]; exact Or.inr h
  have hDa : ∀ z9 : ZS, va_D A (zM k q z9) := fun z9 => va_D_adr (w := zM k q z) rfl hD
  have hl := lv_entry ([.ref (q 0), .int n, .int kk, .int y]) (n := 12) (Nat.le_of_ble_eq_true rfl)
  rw [lg_entry_eq]
  generalize (lg_sl ([.ref (q 0), .int n, .int kk, .int y]) ++ List.replicate (12 - (lg_sl ([.ref (q 0), .int n, .int kk, .int y])).length) Slot.unset).toArray = ls at hl ⊢
  have hl : lv_has ls 12 [(0, .ref (q 0)), (1, .int n), (2, .int kk), (3, .int y)] := hl
  refine z_start2 (A := A) (w := (zM k q z)) hP (fun H locs hP hS => ?_)
  clear hD0 hAe
  refine lv_lconst (v := 0) hx hb dX7_waysOf_0 (by decide) ?_
  refine lv_lstore (lv' := [(4, .long 0), (0, .ref (q 0)), (1, .int n), (2, .int kk), (3, .int y)]) hx hb dX7_waysOf_1 hl (by decide) rfl (fun ls hl => ?_)
  refine lv_iconst (v := 0) hx hb dX7_waysOf_3 (by decide) ?_
  refine lv_istore (lv' := [(6, .int 0), (4, .long 0), (0, .ref (q 0)), (1, .int n), (2, .int kk), (3, .int y)]) hx hb dX7_waysOf_4 hl (by decide) rfl (fun ls hl => ?_)
  obtain ⟨sm, esm⟩ : ∃ x : Int64, 0 = x := ⟨_, rfl⟩
  obtain ⟨j, ej⟩ : ∃ x : Int32, 0 = x := ⟨_, rfl⟩
  have hv6 : (0 ≤ j.toInt ∧ j.toInt ≤ kk.toInt + 1) := by subst esm ej; exact ⟨by decide, by have q : (0 : Int32).toInt = 0 := (by decide); omega⟩
  replace hl : lv_has ls 12 [(6, .int j), (4, .long sm), (0, .ref (q 0)), (1, .int n), (2, .int kk), (3, .int y)] := by subst esm ej; exact hl
  clear esm ej
  obtain ⟨mm6, hm6⟩ : ∃ mm : Nat, mm = (13 - j.toInt).toNat := ⟨_, rfl⟩
  refine z_cut2 hP hS hl ?_
  clear hl hP
  intro H locs ls hP hS hl
  induction mm6 using Nat.strongRecOn generalizing sm j H locs ls with
  | _ mm6 ih6 =>
    have hj := hv6
    refine lv_iload hx hb dX7_waysOf_6 (lv_at hl 0 rfl) ?_
    refine lv_iload_n hx hb dX7_waysOf_8 rfl (lv_at hl 4 rfl) ?_
    refine lv_icmp_gt (tgt := 122) hx hb dX7_waysOf_9 (by decide) (fun c_1 => ?_) (fun c_1 => ?_)
    · skip
      have hc_1 := zb_lt rfl rfl c_1
      refine lv_lload hx hb dX7_waysOf_122 (lv_at hl 1 rfl) ?_
      exact W.lret (v := sm) hx hb hr (fun t ht hW => ⟨⟨sm, (), rfl, trivial, ⟨by rw [ht]; exact hP, hDa _⟩⟩, hS.F ht⟩) hS.2.2 dX7_waysOf_124
    · skip
      have hc_1 := zb_nlt rfl rfl c_1
      refine lv_iload hx hb dX7_waysOf_12 (lv_at hl 0 rfl) ?_
      refine lv_iload_n hx hb dX7_waysOf_14 rfl (lv_at hl 5 rfl) ?_
      refine lv_icmp_gt (tgt := 122) hx hb dX7_waysOf_15 (by decide) (fun c_2 => ?_) (fun c_2 => ?_)
      · skip
        have hc_2 := zb_lt rfl rfl c_2
        refine lv_lload hx hb dX7_waysOf_122 (lv_at hl 1 rfl) ?_
        exact W.lret (v := sm) hx hb hr (fun t ht hW => ⟨⟨sm, (), rfl, trivial, ⟨by rw [ht]; exact hP, hDa _⟩⟩, hS.F ht⟩) hS.2.2 dX7_waysOf_124
      · skip
        have hc_2 := zb_nlt rfl rfl c_2
        refine lv_iload_n hx hb dX7_waysOf_18 rfl (lv_at hl 5 rfl) ?_
        refine lv_iload hx hb dX7_waysOf_19 (lv_at hl 0 rfl) ?_
        refine lv_isub hx hb dX7_waysOf_21 ?_
        refine lv_topi (fun x_3 ex_3 => ?_)
        have hx_3 := z_sub ex_3 rfl rfl (by omega)
        refine lv_istore (lv' := [(7, .int x_3), (6, .int j), (4, .long sm), (0, .ref (q 0)), (1, .int n), (2, .int kk), (3, .int y)]) hx hb dX7_waysOf_22 hl (by decide) rfl (fun ls hl => ?_)
        refine lv_iload hx hb dX7_waysOf_24 (lv_at hl 0 rfl) ?_
        refine lv_iload_n hx hb dX7_waysOf_26 rfl (lv_at hl 4 rfl) ?_
        refine lv_iload_n hx hb dX7_waysOf_27 rfl (lv_at hl 5 rfl) ?_
        refine lv_isub hx hb dX7_waysOf_28 ?_
        refine lv_topi (fun x_4 ex_4 => ?_)
        have hx_4 := z_sub ex_4 rfl rfl (by omega)
        refine lv_icmp_gt (tgt := 116) hx hb dX7_waysOf_29 (by decide) (fun c_5 => ?_) (fun c_5 => ?_)
        · skip
          have hc_5 := zb_lt rfl rfl c_5
          obtain ⟨x_6, ex_6⟩ : ∃ y : Int32, y = j + 1 := ⟨_, rfl⟩
          have hx_6 : x_6.toInt = j.toInt + 1 := z_add ex_6 rfl (show (1 : Int32).toInt = 1 by decide) (by omega)
          refine lv_iinc (v := x_6) (lv' := [(6, .int x_6), (7, .int x_3), (4, .long sm), (0, .ref (q 0)), (1, .int n), (2, .int kk), (3, .int y)]) hx hb dX7_waysOf_116 hl (k := 1) rfl (by rw [ex_6]; rfl) (by decide) rfl (fun ls hl => ?_)
          refine lv_goto (tgt := 6) hx hb dX7_waysOf_119 (by decide) ?_
          exact ih6 ((13 - x_6.toInt).toNat) (by omega) sm x_6 (show 0 ≤ x_6.toInt ∧ x_6.toInt ≤ kk.toInt + 1 by omega) rfl H locs ls hP hS (lv_sub hl [0, 2, 3, 4, 5, 6] rfl)
        · skip
          have hc_5 := zb_nlt rfl rfl c_5
          refine lv_iload_n hx hb dX7_waysOf_32 rfl (lv_at hl 5 rfl) ?_
          refine lv_iload hx hb dX7_waysOf_33 (lv_at hl 1 rfl) ?_
          refine zc0_l (w := (zM k q z)) (va_runS (As := [.int kk, .int j]) (rest := []) ⟨hx, hb, hml, hown, htb⟩ (c_X7_choose l dC dI k kk j _ (by omega)) (va_cwS 2 htb (gzS wmt4_233 wmt4_234 wmt1_8 wmt4_235) rfl rfl rfl (by decide +kernel) ⟨Nat.le_of_ble_eq_true rfl, Nat.le_of_ble_eq_true rfl⟩) (zp0_S hK) rfl rfl hl.1 rfl (lv_room (Nat.le_of_ble_eq_true rfl)) dX7_waysOf_35 ⟨Nat.le_of_ble_eq_true rfl, Nat.le_of_ble_eq_true rfl⟩) hP hS hA (fun r_7 u_8 H locs w_9 hP hS => ?_)
          refine lv_aload_n hx hb dX7_waysOf_38 rfl (lv_at hl 3 rfl) ?_
          refine va_get (D := (dC, dI)) (ci := 7) (v := .long (z.2.1 31)) (C := RX7) (T := TX7) (N := 42) hx hb htb inw7 hown hK.1 hP 0 rfl rfl 31 (by decide) (htb _ wmt3_198) (fun _ h9 => h9) rfl dX7_waysOf_39 ?_
          refine lv_topl (fun x_10 ex_10 => ?_)
          have hx_10 : x_10.toInt = (z.2.1 31).toInt := by rw [ex_10]
          refine lv_iload hx hb dX7_waysOf_42 (lv_at hl 1 rfl) ?_
          refine zc0_l (w := (zM k q z)) (va_runS (As := [.long x_10, .int j]) (rest := [.long r_7]) ⟨hx, hb, hml, hown, htb⟩ (c_X7_power l dC dI k x_10 j _ (by omega)) (va_cwS 2 htb (gzS wmt4_236 wmt4_237 wmt1_8 wmt4_238) rfl rfl rfl (by decide +kernel) ⟨Nat.le_of_ble_eq_true rfl, Nat.le_of_ble_eq_true rfl⟩) (zp0_S hK) rfl rfl hl.1 rfl (lv_room (Nat.le_of_ble_eq_true rfl)) dX7_waysOf_44 ⟨Nat.le_of_ble_eq_true rfl, Nat.le_of_ble_eq_true rfl⟩) hP hS hA (fun r_11 u_12 H locs w_13 hP hS => ?_)
          refine lv_lmul hx hb dX7_waysOf_47 ?_
          refine lv_topl (fun x_14 ex_14 => ?_)
          refine lv_aload_n hx hb dX7_waysOf_48 rfl (lv_at hl 3 rfl) ?_
          refine va_get (D := (dC, dI)) (ci := 7) (v := .long (z.2.1 30)) (C := RX7) (T := TX7) (N := 42) hx hb htb inw7 hown hK.1 hP 0 rfl rfl 30 (by decide) (htb _ wmt3_197) (fun _ h9 => h9) rfl dX7_waysOf_49 ?_
          refine lv_topl (fun x_15 ex_15 => ?_)
          have hx_15 : x_15.toInt = (z.2.1 30).toInt := by rw [ex_15]
          refine lv_aload_n hx hb dX7_waysOf_52 rfl (lv_at hl 3 rfl) ?_
          refine va_get (D := (dC, dI)) (ci := 7) (v := .long (z.2.1 31)) (C := RX7) (T := TX7) (N := 42) hx hb htb inw7 hown hK.1 hP 0 rfl rfl 31 (by decide) (htb _ wmt3_198) (fun _ h9 => h9) rfl dX7_waysOf_53 ?_
          refine z_top (v2 := .long x_10) (congrArg Value.long ex_10.symm) ?_
          refine lv_lsub hx hb dX7_waysOf_56 ?_
          refine lv_topl (fun x_16 ex_16 => ?_)
          refine lv_iload_n hx hb dX7_waysOf_57 rfl (lv_at hl 5 rfl) ?_
          refine lv_iload hx hb dX7_waysOf_58 (lv_at hl 1 rfl) ?_
          refine lv_isub hx hb dX7_waysOf_60 ?_
          refine lv_topi (fun x_17 ex_17 => ?_)
          have hx_17 := z_sub ex_17 rfl rfl (by omega)
          refine zc0_l (w := (zM k q z)) (va_runS (As := [.long x_16, .int x_17]) (rest := [.long x_14]) ⟨hx, hb, hml, hown, htb⟩ (c_X7_power l dC dI k x_16 x_17 _ (by omega)) (va_cwS 2 htb (gzS wmt4_236 wmt4_237 wmt1_8 wmt4_238) rfl rfl rfl (by decide +kernel) ⟨Nat.le_of_ble_eq_true rfl, Nat.le_of_ble_eq_true rfl⟩) (zp0_S hK) rfl rfl hl.1 rfl (lv_room (Nat.le_of_ble_eq_true rfl)) dX7_waysOf_61 ⟨Nat.le_of_ble_eq_true rfl, Nat.le_of_ble_eq_true rfl⟩) hP hS hA (fun r_18 u_19 H locs w_20 hP hS => ?_)
          refine lv_lmul hx hb dX7_waysOf_64 ?_
          refine lv_topl (fun x_21 ex_21 => ?_)
          refine lv_lstore (lv' := [(8, .long x_21), (7, .int x_3), (6, .int j), (4, .long sm), (0, .ref (q 0)), (1, .int n), (2, .int kk), (3, .int y)]) hx hb dX7_waysOf_65 hl (by decide) rfl (fun ls hl => ?_)
          refine lv_iload_n hx hb dX7_waysOf_67 rfl (lv_at hl 5 rfl) ?_
          refine lv_iload_n hx hb dX7_waysOf_68 rfl (lv_at hl 6 rfl) ?_
          refine lv_isub hx hb dX7_waysOf_69 ?_
          refine lv_topi (fun x_22 ex_22 => ?_)
          have hx_22 := z_sub ex_22 rfl rfl (by omega)
          refine lv_iload hx hb dX7_waysOf_70 (lv_at hl 1 rfl) ?_
          refine zc0_l (w := (zM k q z)) (va_runS (As := [.int x_22, .int x_3]) (rest := []) ⟨hx, hb, hml, hown, htb⟩ (c_X7_choose l dC dI k x_22 x_3 _ (by omega)) (va_cwS 2 htb (gzS wmt4_233 wmt4_234 wmt1_8 wmt4_235) rfl rfl rfl (by decide +kernel) ⟨Nat.le_of_ble_eq_true rfl, Nat.le_of_ble_eq_true rfl⟩) (zp0_S hK) rfl rfl hl.1 rfl (lv_room (Nat.le_of_ble_eq_true rfl)) dX7_waysOf_72 ⟨Nat.le_of_ble_eq_true rfl, Nat.le_of_ble_eq_true rfl⟩) hP hS hA (fun r_23 u_24 H locs w_25 hP hS => ?_)
          refine lv_aload_n hx hb dX7_waysOf_75 rfl (lv_at hl 4 rfl) ?_
          refine va_get (D := (dC, dI)) (ci := 7) (v := .long (z.2.1 32)) (C := RX7) (T := TX7) (N := 42) hx hb htb inw7 hown hK.1 hP 0 rfl rfl 32 (by decide) (htb _ wmt3_199) (fun _ h9 => h9) rfl dX7_waysOf_76 ?_
          refine lv_topl (fun x_26 ex_26 => ?_)
          have hx_26 : x_26.toInt = (z.2.1 32).toInt := by rw [ex_26]
          refine lv_iload hx hb dX7_waysOf_79 (lv_at hl 1 rfl) ?_
          refine zc0_l (w := (zM k q z)) (va_runS (As := [.long x_26, .int x_3]) (rest := [.long r_23]) ⟨hx, hb, hml, hown, htb⟩ (c_X7_power l dC dI k x_26 x_3 _ (by omega)) (va_cwS 2 htb (gzS wmt4_236 wmt4_237 wmt1_8 wmt4_238) rfl rfl rfl (by decide +kernel) ⟨Nat.le_of_ble_eq_true rfl, Nat.le_of_ble_eq_true rfl⟩) (zp0_S hK) rfl rfl hl.1 rfl (lv_room (Nat.le_of_ble_eq_true rfl)) dX7_waysOf_81 ⟨Nat.le_of_ble_eq_true rfl, Nat.le_of_ble_eq_true rfl⟩) hP hS hA (fun r_27 u_28 H locs w_29 hP hS => ?_)
          refine lv_lmul hx hb dX7_waysOf_84 ?_
          refine lv_topl (fun x_30 ex_30 => ?_)
          refine lv_aload_n hx hb dX7_waysOf_85 rfl (lv_at hl 4 rfl) ?_
          refine va_get (D := (dC, dI)) (ci := 7) (v := .long (z.2.1 30)) (C := RX7) (T := TX7) (N := 42) hx hb htb inw7 hown hK.1 hP 0 rfl rfl 30 (by decide) (htb _ wmt3_197) (fun _ h9 => h9) rfl dX7_waysOf_86 ?_
          refine z_top (v2 := .long x_15) (congrArg Value.long ex_15.symm) ?_
          refine lv_aload_n hx hb dX7_waysOf_89 rfl (lv_at hl 4 rfl) ?_
          refine va_get (D := (dC, dI)) (ci := 7) (v := .long (z.2.1 32)) (C := RX7) (T := TX7) (N := 42) hx hb htb inw7 hown hK.1 hP 0 rfl rfl 32 (by decide) (htb _ wmt3_199) (fun _ h9 => h9) rfl dX7_waysOf_90 ?_
          refine z_top (v2 := .long x_26) (congrArg Value.long ex_26.symm) ?_
          refine lv_lsub hx hb dX7_waysOf_93 ?_
          refine lv_topl (fun x_31 ex_31 => ?_)
          refine lv_iload_n hx hb dX7_waysOf_94 rfl (lv_at hl 5 rfl) ?_
          refine lv_iload_n hx hb dX7_waysOf_95 rfl (lv_at hl 6 rfl) ?_
          refine lv_isub hx hb dX7_waysOf_96 ?_
          refine lv_topi (fun x_32 ex_32 => ?_)
          have hx_32 := z_sub ex_32 rfl rfl (by omega)
          refine lv_iload hx hb dX7_waysOf_97 (lv_at hl 1 rfl) ?_
          refine lv_isub hx hb dX7_waysOf_99 ?_
          refine lv_topi (fun x_33 ex_33 => ?_)
          have hx_33 := z_sub ex_33 rfl rfl (by omega)
          refine zc0_l (w := (zM k q z)) (va_runS (As := [.long x_31, .int x_33]) (rest := [.long x_30]) ⟨hx, hb, hml, hown, htb⟩ (c_X7_power l dC dI k x_31 x_33 _ (by omega)) (va_cwS 2 htb (gzS wmt4_236 wmt4_237 wmt1_8 wmt4_238) rfl rfl rfl (by decide +kernel) ⟨Nat.le_of_ble_eq_true rfl, Nat.le_of_ble_eq_true rfl⟩) (zp0_S hK) rfl rfl hl.1 rfl (lv_room (Nat.le_of_ble_eq_true rfl)) dX7_waysOf_100 ⟨Nat.le_of_ble_eq_true rfl, Nat.le_of_ble_eq_true rfl⟩) hP hS hA (fun r_34 u_35 H locs w_36 hP hS => ?_)
          refine lv_lmul hx hb dX7_waysOf_103 ?_
          refine lv_topl (fun x_37 ex_37 => ?_)
          refine lv_lstore (lv' := [(10, .long x_37), (8, .long x_21), (7, .int x_3), (6, .int j), (4, .long sm), (0, .ref (q 0)), (1, .int n), (2, .int kk), (3, .int y)]) hx hb dX7_waysOf_104 hl (by decide) rfl (fun ls hl => ?_)
          refine lv_lload hx hb dX7_waysOf_106 (lv_at hl 4 rfl) ?_
          refine lv_lload hx hb dX7_waysOf_108 (lv_at hl 1 rfl) ?_
          refine lv_lload hx hb dX7_waysOf_110 (lv_at hl 0 rfl) ?_
          refine lv_lmul hx hb dX7_waysOf_112 ?_
          refine lv_topl (fun x_38 ex_38 => ?_)
          refine lv_ladd hx hb dX7_waysOf_113 ?_
          refine lv_topl (fun x_39 ex_39 => ?_)
          refine lv_lstore (lv' := [(4, .long x_39), (10, .long x_37), (8, .long x_21), (7, .int x_3), (6, .int j), (0, .ref (q 0)), (1, .int n), (2, .int kk), (3, .int y)]) hx hb dX7_waysOf_114 hl (by decide) rfl (fun ls hl => ?_)
          obtain ⟨x_40, ex_40⟩ : ∃ y : Int32, y = j + 1 := ⟨_, rfl⟩
          have hx_40 : x_40.toInt = j.toInt + 1 := z_add ex_40 rfl (show (1 : Int32).toInt = 1 by decide) (by omega)
          refine lv_iinc (v := x_40) (lv' := [(6, .int x_40), (4, .long x_39), (10, .long x_37), (8, .long x_21), (7, .int x_3), (0, .ref (q 0)), (1, .int n), (2, .int kk), (3, .int y)]) hx hb dX7_waysOf_116 hl (k := 4) rfl (by rw [ex_40]; rfl) (by decide) rfl (fun ls hl => ?_)
          refine lv_goto (tgt := 6) hx hb dX7_waysOf_119 (by decide) ?_
          exact ih6 ((13 - x_40.toInt).toNat) (by omega) x_39 x_40 (show 0 ≤ x_40.toInt ∧ x_40.toInt ≤ kk.toInt + 1 by omega) rfl H locs ls hP hS (lv_sub hl [0, 1, 5, 6, 7, 8] rfl)
set_option maxHeartbeats 4000000 in
set_option maxRecDepth 100000 in
theorem c_X7_refusesWays (l : Launch) (dC : Nat → ClassId) (dI : Nat → Nat → Nat) (k : Nat → ClassId) (q : Nat → Nat) (z : ZS) (g : Int32) (d : Int32) (n : Int32) (sz : Nat) (hI : MInv z) : Met l yX7_refusesWays (wz yX7_refusesWays cX7_refusesWays 4 (some .int)) ({ frames := 6, cells := 0, slots := 0, locals := 137 }) (va_Pc [.ref (q 0), .int g, .int d, .int n] (zPre dC dI k (zTX k) (zM k q z) sz)) (va_Qi (fun (r : Int32) (u : (Nat → Int32) × (Nat → Int32) × (Nat → Int32) × (Nat → Int32) × (Nat → Int32) × (Nat → Int32) × (Nat → Int32) × Int32 × Int32 × Int32 × Int32 × (Nat → Int32) × (Nat → Int32) × (Nat → Int32) × Int32 × Int32 × Int64 × Int64 × Int64 × Int64 × Int64) => (MD (FR (z.2.2.1 2) (z.2.2.1 3)) u.1 u.2.1 u.2.2.1 u.2.2.2.1 u.2.2.2.2.1 u.2.2.2.2.2.1 u.2.2.2.2.2.2.1) ∧ (r.toInt = 0 → ((0 ≤ g.toInt ∧ g.toInt < 4) ∧ (0 ≤ d.toInt ∧ d.toInt < 4)) ∧ (0 ≤ u.2.2.2.2.2.2.2.2.2.2.2.2.2.2.2.1.toInt ∧ u.2.2.2.2.2.2.2.2.2.2.2.2.2.2.2.1.toInt ≤ u.2.2.2.2.2.2.2.2.2.2.2.2.2.2.1.toInt ∧ u.2.2.2.2.2.2.2.2.2.2.2.2.2.2.1.toInt ≤ 12) ∧ n.toInt ≤ u.2.2.2.2.2.2.2.2.2.2.2.2.2.2.1.toInt ∧ 0 ≤ n.toInt ∧ (1 ≤ u.2.2.2.2.2.2.2.2.2.2.2.2.2.2.2.2.2.2.1.toInt ∧ u.2.2.2.2.2.2.2.2.2.2.2.2.2.2.2.2.2.2.1.toInt ≤ 24)) ∧ (¬ r.toInt = 0 → r.toInt < 0)) (fun u t => zPost dC dI (va_A (zM k q z) sz) (zM k q (sJ (sJ (sJ (sJ (sJ (sI (sI (sA (sA (sA (sI (sI (sI (sI (sA (sA (sA (sA (sA (sA (sA z 4 u.1) 5 u.2.1) 6 u.2.2.1) 7 u.2.2.2.1) 8 u.2.2.2.2.1) 9 u.2.2.2.2.2.1) 10 u.2.2.2.2.2.2.1) 12 u.2.2.2.2.2.2.2.1) 13 u.2.2.2.2.2.2.2.2.1) 14 u.2.2.2.2.2.2.2.2.2.1) 15 u.2.2.2.2.2.2.2.2.2.2.1) 16 u.2.2.2.2.2.2.2.2.2.2.2.1) 17 u.2.2.2.2.2.2.2.2.2.2.2.2.1) 18 u.2.2.2.2.2.2.2.2.2.2.2.2.2.1) 28 u.2.2.2.2.2.2.2.2.2.2.2.2.2.2.1) 29 u.2.2.2.2.2.2.2.2.2.2.2.2.2.2.2.1) 0 u.2.2.2.2.2.2.2.2.2.2.2.2.2.2.2.2.1) 1 u.2.2.2.2.2.2.2.2.2.2.2.2.2.2.2.2.2.1) 30 u.2.2.2.2.2.2.2.2.2.2.2.2.2.2.2.2.2.2.1) 31 u.2.2.2.2.2.2.2.2.2.2.2.2.2.2.2.2.2.2.2.1) 32 u.2.2.2.2.2.2.2.2.2.2.2.2.2.2.2.2.2.2.2.2)) t) (va_A (zM k q z) sz)) 0 0 (va_A (zM k q z) sz) := by
  refine Met.ofW (cc := cX7_refusesWays) (maxL := 4) (ret := (some .int)) (by decide) rfl ?_
  intro p e s m args below meth c s₁ B hml hv
  obtain ⟨rfl, hsz, hP, hK, hD0⟩ := hv
  have hx := B.exec
  have hb := B.bytes
  have hr := B.returns
  have hts := atoms_spec (ws := wz yX7_refusesWays cX7_refusesWays 4 (some .int)) B.pre
  have htb : ∀ w ∈ zw, w.before _ s = true := fun w h => hts w (List.mem_cons_of_mem _ h)
  have hown : s.vm.findClass RX7 = some m.cls := findClass_of_methodNamed B.named
  have hlocks := B.notSynchronized
  clear hts
  subst hsz
  have hD := hD0.self (sz := s.heap.size)
  generalize hAe : va_A (zM k q z) s.heap.size = A at hD ⊢
  have hA : ∀ q : Nat, s.heap.size ≤ q → A q := fun q h => by rw [← hAe]; exact Or.inr h
  have hDa : ∀ z9 : ZS, va_D A (zM k q z9) := fun z9 => va_D_adr (w := zM k q z) rfl hD
  have hl := lv_entry ([.ref (q 0), .int g, .int d, .int n]) (n := 4) (Nat.le_of_ble_eq_true rfl)
  rw [lg_entry_eq]
  generalize (lg_sl ([.ref (q 0), .int g, .int d, .int n]) ++ List.replicate (4 - (lg_sl ([.ref (q 0), .int g, .int d, .int n])).length) Slot.unset).toArray = ls at hl ⊢
  have hl : lv_has ls 4 [(0, .ref (q 0)), (1, .int g), (2, .int d), (3, .int n)] := hl
  refine z_start2 (A := A) (w := (zM k q z)) hP (fun H locs hP hS => ?_)
  clear hD0 hAe
  refine lv_iload_n hx hb dX7_refusesWays_0 rfl (lv_at hl 1 rfl) ?_
  refine lv_iload_n hx hb dX7_refusesWays_1 rfl (lv_at hl 2 rfl) ?_
  refine zc0_i (w := (zM k q z)) (va_runS (As := [.int g, .int d]) (rest := []) ⟨hx, hb, hml, hown, htb⟩ (c_X7_isPoll l dC dI k g d _ ) (va_cwS 2 htb (gzS wmt4_202 wmt4_203 wmt1_8 wmt4_204) rfl rfl rfl (by decide +kernel) ⟨Nat.le_of_ble_eq_true rfl, Nat.le_of_ble_eq_true rfl⟩) (zp0_S hK) rfl rfl hl.1 rfl (lv_room (Nat.le_of_ble_eq_true rfl)) dX7_refusesWays_2 ⟨Nat.le_of_ble_eq_true rfl, Nat.le_of_ble_eq_true rfl⟩) hP hS hA (fun r_1 u_2 H locs w_3 hP hS => ?_)
  rcases w_3 with ⟨e_5, h_4⟩ | ⟨e_7, h_6⟩
  · skip
    replace e_5 : r_1 = 1 := e_5
    subst e_5
    replace h_4 : (0 ≤ g.toInt ∧ g.toInt < 4) ∧ (0 ≤ d.toInt ∧ d.toInt < 4) := h_4
    refine lv_if_eq (tgt := 12) hx hb dX7_refusesWays_5 (by decide) (fun c_8 => ?_) (fun c_8 => ?_)
    · skip
      exact absurd c_8 (by decide)
    · skip
      refine lv_iload_n hx hb dX7_refusesWays_8 rfl (lv_at hl 3 rfl) ?_
      refine lv_if_ge (tgt := 15) hx hb dX7_refusesWays_9 (by decide) (fun c_9 => ?_) (fun c_9 => ?_)
      · skip
        have hc_9 := zb_le (show (0 : Int32).toInt = 0 by decide) rfl c_9
        refine lv_aload_n hx hb dX7_refusesWays_15 rfl (lv_at hl 0 rfl) ?_
        refine lv_iload_n hx hb dX7_refusesWays_16 rfl (lv_at hl 1 rfl) ?_
        refine lv_iload_n hx hb dX7_refusesWays_17 rfl (lv_at hl 2 rfl) ?_
        refine zcA_v (w := (zM k q z)) (va_runV (As := [.int g, .int d]) (rest := []) ⟨hx, hb, hml, hown, htb⟩ (c_X7_polls l dC dI k q z g d _ hI) (cwV 2 htb (gzV wmt4_205 wmt4_207 wmp3_7 wmt1_8 wmt4_208) rfl rfl rfl (by decide +kernel) ⟨Nat.le_of_ble_eq_true rfl, Nat.le_of_ble_eq_true rfl⟩) (zpA_V (ci := 7) (q0 := 0) hK hP (hDa _) rfl rfl) rfl rfl hl.1 rfl (lv_room (Nat.le_of_ble_eq_true rfl)) dX7_refusesWays_18 ⟨Nat.le_of_ble_eq_true rfl, Nat.le_of_ble_eq_true rfl⟩) (hDa _) hS hA (fun u_11 H locs w_12 hP _ hS => ?_)
        obtain ⟨op_13, oy_14⟩ := u_11
        have hP : va_P (dC, dI) vwCl (zM k q (sI (sI z 28 op_13) 29 oy_14)) H := hP
        have h_15 := w_12
        replace h_15 : 0 ≤ oy_14.toInt ∧ oy_14.toInt ≤ op_13.toInt ∧ op_13.toInt ≤ 120 := h_15
        have hpo := h_15
        refine lv_aload_n hx hb dX7_refusesWays_21 rfl (lv_at hl 0 rfl) ?_
        refine lv_iload_n hx hb dX7_refusesWays_22 rfl (lv_at hl 2 rfl) ?_
        refine zcA_i (w := (zM k q (sI (sI z 28 op_13) 29 oy_14))) (va_runV (As := [.int d]) (rest := []) ⟨hx, hb, hml, hown, htb⟩ (c_X7_faultOf l dC dI k q (sI (sI z 28 op_13) 29 oy_14) d _ hI (show 0 ≤ d.toInt ∧ d.toInt < 4 by omega)) (cwV 1 htb (gzV wmt4_73 wmt4_75 wmp2_6 wmt1_8 wmt4_76) rfl rfl rfl (by decide +kernel) ⟨Nat.le_of_ble_eq_true rfl, Nat.le_of_ble_eq_true rfl⟩) (zpA_V (ci := 7) (q0 := 0) hK hP (hDa _) rfl rfl) rfl rfl hl.1 rfl (lv_room (Nat.le_of_ble_eq_true rfl)) dX7_refusesWays_23 ⟨Nat.le_of_ble_eq_true rfl, Nat.le_of_ble_eq_true rfl⟩) (hDa _) hS hA (fun r_17 u_18 H locs w_19 hP _ hS => ?_)
        obtain ⟨o4_20, o5_21, o6_22, o7_23, o8_24, o9_25, o10_26, o12_27, o13_28, o14_29, o15_30, o16_31, o17_32, o18_33⟩ := u_18
        have hP : va_P (dC, dI) vwCl (zM k q (sA (sA (sA (sI (sI (sI (sI (sA (sA (sA (sA (sA (sA (sA (sI (sI z 28 op_13) 29 oy_14) 4 o4_20) 5 o5_21) 6 o6_22) 7 o7_23) 8 o8_24) 9 o9_25) 10 o10_26) 12 o12_27) 13 o13_28) 14 o14_29) 15 o15_30) 16 o16_31) 17 o17_32) 18 o18_33)) H := hP
        obtain ⟨h_34, h_35, h_36, h_37, h_38⟩ := w_19
        replace h_34 : MD (FR ((z.2.2.1 2)) ((z.2.2.1 3))) o4_20 o5_21 o6_22 o7_23 o8_24 o9_25 o10_26 := h_34
        replace h_35 : ¬ o4_20 d.toNatClampNeg = 0 := h_35
        replace h_36 : RK ((z.2.2.1 4)) ((z.2.2.1 5)) o4_20 o5_21 := h_36
        replace h_37 : R7 ((z.2.2.1 4)) ((z.2.2.1 6)) ((z.2.2.1 7)) ((z.2.2.1 8)) ((z.2.2.1 9)) ((z.2.2.1 10)) o6_22 o7_23 o8_24 o9_25 o10_26 := h_37
        replace h_38 : r_17 = o5_21 d.toNatClampNeg := h_38
        have hI : MInv (sA (sA (sA (sI (sI (sI (sI (sA (sA (sA (sA (sA (sA (sA (sI (sI z 28 op_13) 29 oy_14) 4 o4_20) 5 o5_21) 6 o6_22) 7 o7_23) 8 o8_24) 9 o9_25) 10 o10_26) 12 o12_27) 13 o13_28) 14 o14_29) 15 o15_30) 16 o16_31) 17 o17_32) 18 o18_33) := ⟨hI.1, hI.2.1, hI.2.2.1, hI.2.2.2.1, hI.2.2.2.2.1, h_34⟩
        have hms := MD_at h_34 (show 0 ≤ d.toInt ∧ d.toInt < 4 by omega)
        have hrd := h_35
        have hrk := h_36
        obtain ⟨hw, hff, hfF, hlk⟩ := hms.2.2.2.2.2 h_35
        have hwb := hms.1
        have hr5 : r_17.toInt = (o5_21 d.toNatClampNeg).toInt := by rw [h_38]
        refine lv_iconst (v := (-1)) hx hb dX7_refusesWays_26 (by decide) ?_
        refine lv_icmp_ne (tgt := 38) hx hb dX7_refusesWays_27 (by decide) (fun c_40 => ?_) (fun c_40 => ?_)
        · skip
          have hc_40 := zb_ne rfl (show ((-1) : Int32).toInt = (-1) by decide) c_40
          refine lv_bipush (v := (-3)) hx hb dX7_refusesWays_38 (by decide) ?_
          exact W.iret (v := (-3)) hx hb hr (fun t ht hW => ⟨⟨(-3), (o4_20, o5_21, o6_22, o7_23, o8_24, o9_25, o10_26, o12_27, o13_28, o14_29, o15_30, o16_31, o17_32, o18_33, op_13, oy_14, z.2.1 0, z.2.1 1, z.2.1 30, z.2.1 31, z.2.1 32), rfl, (show (MD (FR (z.2.2.1 2) (z.2.2.1 3)) o4_20 o5_21 o6_22 o7_23 o8_24 o9_25 o10_26) ∧ (((-3) : Int32).toInt = 0 → ((0 ≤ g.toInt ∧ g.toInt < 4) ∧ (0 ≤ d.toInt ∧ d.toInt < 4)) ∧ (0 ≤ oy_14.toInt ∧ oy_14.toInt ≤ op_13.toInt ∧ op_13.toInt ≤ 12) ∧ n.toInt ≤ op_13.toInt ∧ 0 ≤ n.toInt ∧ (1 ≤ (z.2.1 30).toInt ∧ (z.2.1 30).toInt ≤ 24)) ∧ (¬ ((-3) : Int32).toInt = 0 → ((-3) : Int32).toInt < 0) from ⟨hI.2.2.2.2.2, fun q9 => absurd q9 (by decide), fun _ => by decide⟩), ⟨by rw [ht]; exact hP, hDa _⟩⟩, hS.F ht⟩) hS.2.2 dX7_refusesWays_40
        · skip
          have hc_40 := zb_eq rfl (show ((-1) : Int32).toInt = (-1) by decide) c_40
          refine lv_iload_n hx hb dX7_refusesWays_30 rfl (lv_at hl 3 rfl) ?_
          refine lv_aload_n hx hb dX7_refusesWays_31 rfl (lv_at hl 0 rfl) ?_
          refine va_get (D := (dC, dI)) (ci := 7) (v := .int op_13) (C := RX7) (T := TX7) (N := 42) hx hb htb inw7 hown hK.1 hP 0 rfl rfl 28 (by decide) (htb _ wmt3_195) (fun _ h9 => h9) rfl dX7_refusesWays_32 ?_
          refine lv_icmp_le (tgt := 41) hx hb dX7_refusesWays_35 (by decide) (fun c_41 => ?_) (fun c_41 => ?_)
          · skip
            have hc_41 := zb_le rfl rfl c_41
            refine lv_aload_n hx hb dX7_refusesWays_41 rfl (lv_at hl 0 rfl) ?_
            refine va_get (D := (dC, dI)) (ci := 7) (v := .int op_13) (C := RX7) (T := TX7) (N := 42) hx hb htb inw7 hown hK.1 hP 0 rfl rfl 28 (by decide) (htb _ wmt3_195) (fun _ h9 => h9) rfl dX7_refusesWays_42 ?_
            refine lv_bipush (v := 12) hx hb dX7_refusesWays_45 (by decide) ?_
            refine lv_icmp_gt (tgt := 60) hx hb dX7_refusesWays_47 (by decide) (fun c_42 => ?_) (fun c_42 => ?_)
            · skip
              have hc_42 := zb_lt (show (12 : Int32).toInt = 12 by decide) rfl c_42
              refine lv_bipush (v := (-4)) hx hb dX7_refusesWays_60 (by decide) ?_
              exact W.iret (v := (-4)) hx hb hr (fun t ht hW => ⟨⟨(-4), (o4_20, o5_21, o6_22, o7_23, o8_24, o9_25, o10_26, o12_27, o13_28, o14_29, o15_30, o16_31, o17_32, o18_33, op_13, oy_14, z.2.1 0, z.2.1 1, z.2.1 30, z.2.1 31, z.2.1 32), rfl, (show (MD (FR (z.2.2.1 2) (z.2.2.1 3)) o4_20 o5_21 o6_22 o7_23 o8_24 o9_25 o10_26) ∧ (((-4) : Int32).toInt = 0 → ((0 ≤ g.toInt ∧ g.toInt < 4) ∧ (0 ≤ d.toInt ∧ d.toInt < 4)) ∧ (0 ≤ oy_14.toInt ∧ oy_14.toInt ≤ op_13.toInt ∧ op_13.toInt ≤ 12) ∧ n.toInt ≤ op_13.toInt ∧ 0 ≤ n.toInt ∧ (1 ≤ (z.2.1 30).toInt ∧ (z.2.1 30).toInt ≤ 24)) ∧ (¬ ((-4) : Int32).toInt = 0 → ((-4) : Int32).toInt < 0) from ⟨hI.2.2.2.2.2, fun q9 => absurd q9 (by decide), fun _ => by decide⟩), ⟨by rw [ht]; exact hP, hDa _⟩⟩, hS.F ht⟩) hS.2.2 dX7_refusesWays_62
            · skip
              have hc_42 := zb_nlt (show (12 : Int32).toInt = 12 by decide) rfl c_42
              refine lv_aload_n hx hb dX7_refusesWays_50 rfl (lv_at hl 0 rfl) ?_
              refine lv_iload_n hx hb dX7_refusesWays_51 rfl (lv_at hl 2 rfl) ?_
              refine zcA_i (w := (zM k q (sA (sA (sA (sI (sI (sI (sI (sA (sA (sA (sA (sA (sA (sA (sI (sI z 28 op_13) 29 oy_14) 4 o4_20) 5 o5_21) 6 o6_22) 7 o7_23) 8 o8_24) 9 o9_25) 10 o10_26) 12 o12_27) 13 o13_28) 14 o14_29) 15 o15_30) 16 o16_31) 17 o17_32) 18 o18_33))) (va_runV (As := [.int d]) (rest := []) ⟨hx, hb, hml, hown, htb⟩ (c_X7_unitOf l dC dI k q (sA (sA (sA (sI (sI (sI (sI (sA (sA (sA (sA (sA (sA (sA (sI (sI z 28 op_13) 29 oy_14) 4 o4_20) 5 o5_21) 6 o6_22) 7 o7_23) 8 o8_24) 9 o9_25) 10 o10_26) 12 o12_27) 13 o13_28) 14 o14_29) 15 o15_30) 16 o16_31) 17 o17_32) 18 o18_33) d _ hI (show 0 ≤ d.toInt ∧ d.toInt < 4 by omega)) (cwV 1 htb (gzV wmt4_141 wmt4_143 wmp3_2 wmt1_8 wmt4_144) rfl rfl rfl (by decide +kernel) ⟨Nat.le_of_ble_eq_true rfl, Nat.le_of_ble_eq_true rfl⟩) (zpA_V (ci := 7) (q0 := 0) hK hP (hDa _) rfl rfl) rfl rfl hl.1 rfl (lv_room (Nat.le_of_ble_eq_true rfl)) dX7_refusesWays_52 ⟨Nat.le_of_ble_eq_true rfl, Nat.le_of_ble_eq_true rfl⟩) (hDa _) hS hA (fun r_43 u_44 H locs w_45 hP _ hS => ?_)
              obtain ⟨o4_46, o5_47, o6_48, o7_49, o8_50, o9_51, o10_52, o12_53, o13_54, o14_55, o15_56, o16_57, o17_58, o18_59, oa_60, ob_61⟩ := u_44
              have hP : va_P (dC, dI) vwCl (zM k q (sJ (sJ (sA (sA (sA (sI (sI (sI (sI (sA (sA (sA (sA (sA (sA (sA (sI (sI z 28 op_13) 29 oy_14) 4 o4_46) 5 o5_47) 6 o6_48) 7 o7_49) 8 o8_50) 9 o9_51) 10 o10_52) 12 o12_53) 13 o13_54) 14 o14_55) 15 o15_56) 16 o16_57) 17 o17_58) 18 o18_59) 0 oa_60) 1 ob_61)) H := hP
              obtain ⟨h_62, h_63, h_64, h_65, h_66, h_67, h_68⟩ := w_45
              replace h_62 : MD (FR ((z.2.2.1 2)) ((z.2.2.1 3))) o4_46 o5_47 o6_48 o7_49 o8_50 o9_51 o10_52 := h_62
              replace h_63 : ¬ o4_46 d.toNatClampNeg = 0 := h_63
              replace h_64 : RK (o4_20) (o5_21) o4_46 o5_47 := h_64
              replace h_65 : R7 (o4_20) (o6_22) (o7_23) (o8_24) (o9_25) (o10_26) o6_48 o7_49 o8_50 o9_51 o10_52 := h_65
              replace h_66 : (o5_47 d.toNatClampNeg).toInt = -1 → 1 ≤ r_43.toInt := h_66
              replace h_67 : (o5_47 d.toNatClampNeg).toInt = -1 → r_43.toInt = uN (yI (o7_49 d.toNatClampNeg) (o8_50 d.toNatClampNeg) (o9_51 d.toNatClampNeg) (o10_52 d.toNatClampNeg) ((z.1 11)) 1) (yI (o7_49 d.toNatClampNeg) (o8_50 d.toNatClampNeg) (o9_51 d.toNatClampNeg) (o10_52 d.toNatClampNeg) ((z.1 11)) 0) (24 * (o6_48 d.toNatClampNeg).toInt) := h_67
              replace h_68 : ¬ (o5_47 d.toNatClampNeg).toInt = -1 → r_43.toInt = -3 := h_68
              have hI : MInv (sJ (sJ (sA (sA (sA (sI (sI (sI (sI (sA (sA (sA (sA (sA (sA (sA (sI (sI z 28 op_13) 29 oy_14) 4 o4_46) 5 o5_47) 6 o6_48) 7 o7_49) 8 o8_50) 9 o9_51) 10 o10_52) 12 o12_53) 13 o13_54) 14 o14_55) 15 o15_56) 16 o16_57) 17 o17_58) 18 o18_59) 0 oa_60) 1 ob_61) := ⟨hI.1, hI.2.1, hI.2.2.1, hI.2.2.2.1, hI.2.2.2.2.1, h_62⟩
              have hms := MD_at h_62 (show 0 ≤ d.toInt ∧ d.toInt < 4 by omega)
              have hkA := h_64 _ hrd
              have h5A : (o5_47 d.toNatClampNeg).toInt = -1 := by rw [hkA.2]; omega
              have huA := h_66 h5A
              have hvA := h_67 h5A
              have hr7A := h_65 _ hrd
              have hwA := (hms.2.2.2.2.2 h_63).1
              have hrdA := h_63
              have hwbA := hms.1
              refine lv_bipush (v := 24) hx hb dX7_refusesWays_55 (by decide) ?_
              refine lv_icmp_le (tgt := 63) hx hb dX7_refusesWays_57 (by decide) (fun c_70 => ?_) (fun c_70 => ?_)
              · skip
                have hc_70 := zb_le rfl (show (24 : Int32).toInt = 24 by decide) c_70
                refine lv_aload_n hx hb dX7_refusesWays_63 rfl (lv_at hl 0 rfl) ?_
                refine lv_aload_n hx hb dX7_refusesWays_64 rfl (lv_at hl 0 rfl) ?_
                refine lv_iload_n hx hb dX7_refusesWays_65 rfl (lv_at hl 2 rfl) ?_
                refine zcA_i (w := (zM k q (sJ (sJ (sA (sA (sA (sI (sI (sI (sI (sA (sA (sA (sA (sA (sA (sA (sI (sI z 28 op_13) 29 oy_14) 4 o4_46) 5 o5_47) 6 o6_48) 7 o7_49) 8 o8_50) 9 o9_51) 10 o10_52) 12 o12_53) 13 o13_54) 14 o14_55) 15 o15_56) 16 o16_57) 17 o17_58) 18 o18_59) 0 oa_60) 1 ob_61))) (va_runV (As := [.int d]) (rest := [.ref (q 0)]) ⟨hx, hb, hml, hown, htb⟩ (c_X7_unitOf l dC dI k q (sJ (sJ (sA (sA (sA (sI (sI (sI (sI (sA (sA (sA (sA (sA (sA (sA (sI (sI z 28 op_13) 29 oy_14) 4 o4_46) 5 o5_47) 6 o6_48) 7 o7_49) 8 o8_50) 9 o9_51) 10 o10_52) 12 o12_53) 13 o13_54) 14 o14_55) 15 o15_56) 16 o16_57) 17 o17_58) 18 o18_59) 0 oa_60) 1 ob_61) d _ hI (show 0 ≤ d.toInt ∧ d.toInt < 4 by omega)) (cwV 1 htb (gzV wmt4_141 wmt4_143 wmp3_2 wmt1_8 wmt4_144) rfl rfl rfl (by decide +kernel) ⟨Nat.le_of_ble_eq_true rfl, Nat.le_of_ble_eq_true rfl⟩) (zpA_V (ci := 7) (q0 := 0) hK hP (hDa _) rfl rfl) rfl rfl hl.1 rfl (lv_room (Nat.le_of_ble_eq_true rfl)) dX7_refusesWays_66 ⟨Nat.le_of_ble_eq_true rfl, Nat.le_of_ble_eq_true rfl⟩) (hDa _) hS hA (fun r_71 u_72 H locs w_73 hP _ hS => ?_)
                obtain ⟨o4_74, o5_75, o6_76, o7_77, o8_78, o9_79, o10_80, o12_81, o13_82, o14_83, o15_84, o16_85, o17_86, o18_87, oa_88, ob_89⟩ := u_72
                have hP : va_P (dC, dI) vwCl (zM k q (sJ (sJ (sA (sA (sA (sI (sI (sI (sI (sA (sA (sA (sA (sA (sA (sA (sI (sI z 28 op_13) 29 oy_14) 4 o4_74) 5 o5_75) 6 o6_76) 7 o7_77) 8 o8_78) 9 o9_79) 10 o10_80) 12 o12_81) 13 o13_82) 14 o14_83) 15 o15_84) 16 o16_85) 17 o17_86) 18 o18_87) 0 oa_88) 1 ob_89)) H := hP
                obtain ⟨h_90, h_91, h_92, h_93, h_94, h_95, h_96⟩ := w_73
                replace h_90 : MD (FR ((z.2.2.1 2)) ((z.2.2.1 3))) o4_74 o5_75 o6_76 o7_77 o8_78 o9_79 o10_80 := h_90
                replace h_91 : ¬ o4_74 d.toNatClampNeg = 0 := h_91
                replace h_92 : RK (o4_46) (o5_47) o4_74 o5_75 := h_92
                replace h_93 : R7 (o4_46) (o6_48) (o7_49) (o8_50) (o9_51) (o10_52) o6_76 o7_77 o8_78 o9_79 o10_80 := h_93
                replace h_94 : (o5_75 d.toNatClampNeg).toInt = -1 → 1 ≤ r_71.toInt := h_94
                replace h_95 : (o5_75 d.toNatClampNeg).toInt = -1 → r_71.toInt = uN (yI (o7_77 d.toNatClampNeg) (o8_78 d.toNatClampNeg) (o9_79 d.toNatClampNeg) (o10_80 d.toNatClampNeg) ((z.1 11)) 1) (yI (o7_77 d.toNatClampNeg) (o8_78 d.toNatClampNeg) (o9_79 d.toNatClampNeg) (o10_80 d.toNatClampNeg) ((z.1 11)) 0) (24 * (o6_76 d.toNatClampNeg).toInt) := h_95
                replace h_96 : ¬ (o5_75 d.toNatClampNeg).toInt = -1 → r_71.toInt = -3 := h_96
                have hI : MInv (sJ (sJ (sA (sA (sA (sI (sI (sI (sI (sA (sA (sA (sA (sA (sA (sA (sI (sI z 28 op_13) 29 oy_14) 4 o4_74) 5 o5_75) 6 o6_76) 7 o7_77) 8 o8_78) 9 o9_79) 10 o10_80) 12 o12_81) 13 o13_82) 14 o14_83) 15 o15_84) 16 o16_85) 17 o17_86) 18 o18_87) 0 oa_88) 1 ob_89) := ⟨hI.1, hI.2.1, hI.2.2.1, hI.2.2.2.1, hI.2.2.2.2.1, h_90⟩
                have hms := MD_at h_90 (show 0 ≤ d.toInt ∧ d.toInt < 4 by omega)
                have hkB := h_92 _ hrdA
                have h5B : (o5_75 d.toNatClampNeg).toInt = -1 := by rw [hkB.2]; omega
                have huB := h_94 h5B
                have hvB := h_95 h5B
                have hr7B := h_93 _ hrdA
                have hwB := (hms.2.2.2.2.2 h_91).1
                have hrdB := h_91
                have hwbB := hms.1
                have huv : r_71.toInt = r_43.toInt := by rw [hvB, hvA, hr7B.1, hr7B.2.1, hr7B.2.2.1, hr7B.2.2.2.1, hr7B.2.2.2.2]
                refine lv_i2l (v := r_71.toInt64) hx hb dX7_refusesWays_69 rfl ?_
                refine lv_topl (fun x_98 ex_98 => ?_)
                have hx_98 : x_98.toInt = r_71.toInt := by rw [ex_98]; exact Jvm.Kit.i64_of_i32 _
                refine va_put (D := (dC, dI)) (ci := 7) (v := .long x_98) (ty := .long) (C := RX7) (T := TX7) (N := 42) hx hb htb inw7 tyX7 tyX7_ok nmX7 hown hK.1 hP (hDa _) hS 0 rfl rfl 30 (by decide) (htb _ wmt3_197) (fun _ h9 => h9) rfl (by decide +kernel) rfl rfl (Nat.le_of_ble_eq_true rfl) dX7_refusesWays_70 (fun H locs hP _ hS => ?_)
                have hP : va_P (dC, dI) vwCl (zM k q (sJ (sJ (sJ (sA (sA (sA (sI (sI (sI (sI (sA (sA (sA (sA (sA (sA (sA (sI (sI z 28 op_13) 29 oy_14) 4 o4_74) 5 o5_75) 6 o6_76) 7 o7_77) 8 o8_78) 9 o9_79) 10 o10_80) 12 o12_81) 13 o13_82) 14 o14_83) 15 o15_84) 16 o16_85) 17 o17_86) 18 o18_87) 0 oa_88) 1 ob_89) 30 x_98)) H := hP
                refine lv_aload_n hx hb dX7_refusesWays_73 rfl (lv_at hl 0 rfl) ?_
                refine lv_aload_n hx hb dX7_refusesWays_74 rfl (lv_at hl 0 rfl) ?_
                refine lv_iload_n hx hb dX7_refusesWays_75 rfl (lv_at hl 2 rfl) ?_
                refine lv_iconst (v := 1) hx hb dX7_refusesWays_76 (by decide) ?_
                refine zcA_l (w := (zM k q (sJ (sJ (sJ (sA (sA (sA (sI (sI (sI (sI (sA (sA (sA (sA (sA (sA (sA (sI (sI z 28 op_13) 29 oy_14) 4 o4_74) 5 o5_75) 6 o6_76) 7 o7_77) 8 o8_78) 9 o9_79) 10 o10_80) 12 o12_81) 13 o13_82) 14 o14_83) 15 o15_84) 16 o16_85) 17 o17_86) 18 o18_87) 0 oa_88) 1 ob_89) 30 x_98))) (va_runV (As := [.int d, .int 1]) (rest := [.ref (q 0)]) ⟨hx, hb, hml, hown, htb⟩ (c_X7_yesIf l dC dI k q (sJ (sJ (sJ (sA (sA (sA (sI (sI (sI (sI (sA (sA (sA (sA (sA (sA (sA (sI (sI z 28 op_13) 29 oy_14) 4 o4_74) 5 o5_75) 6 o6_76) 7 o7_77) 8 o8_78) 9 o9_79) 10 o10_80) 12 o12_81) 13 o13_82) 14 o14_83) 15 o15_84) 16 o16_85) 17 o17_86) 18 o18_87) 0 oa_88) 1 ob_89) 30 x_98) d 1 _ hI (by omega) hms) (cwV 2 htb (gzV wmt4_120 wmt4_122 wmp2_14 wmt1_8 wmt4_123) rfl rfl rfl (by decide +kernel) ⟨Nat.le_of_ble_eq_true rfl, Nat.le_of_ble_eq_true rfl⟩) (zpA_V (ci := 7) (q0 := 0) hK hP (hDa _) rfl rfl) rfl rfl hl.1 rfl (lv_room (Nat.le_of_ble_eq_true rfl)) dX7_refusesWays_77 ⟨Nat.le_of_ble_eq_true rfl, Nat.le_of_ble_eq_true rfl⟩) (hDa _) hS hA (fun r_99 u_100 H locs w_101 hP _ hS => ?_)
                obtain ⟨h_102, h_103, h_104⟩ := w_101
                replace h_102 : 0 ≤ r_99.toInt ∧ r_99.toInt ≤ 720000 := h_102
                replace h_103 : ((o7_77 d.toNatClampNeg).toInt + (o8_78 d.toNatClampNeg).toInt + (o9_79 d.toNatClampNeg).toInt + (o10_80 d.toNatClampNeg).toInt ≤ (o6_76 d.toNatClampNeg).toInt → r_99.toInt ≤ 24 * (o6_76 d.toNatClampNeg).toInt) := h_103
                replace h_104 : r_99.toInt = yI (o7_77 d.toNatClampNeg) (o8_78 d.toNatClampNeg) (o9_79 d.toNatClampNeg) (o10_80 d.toNatClampNeg) ((z.1 11)) (1 : Int32) := h_104
                refine lv_aload_n hx hb dX7_refusesWays_80 rfl (lv_at hl 0 rfl) ?_
                refine va_get (D := (dC, dI)) (ci := 7) (v := .long x_98) (C := RX7) (T := TX7) (N := 42) hx hb htb inw7 hown hK.1 hP 0 rfl rfl 30 (by decide) (htb _ wmt3_197) (fun _ h9 => h9) rfl dX7_refusesWays_81 ?_
                refine lv_lmul hx hb dX7_refusesWays_84 ?_
                refine lv_topl (fun x_106 ex_106 => ?_)
                refine lv_aload_n hx hb dX7_refusesWays_85 rfl (lv_at hl 0 rfl) ?_
                refine lv_iload_n hx hb dX7_refusesWays_86 rfl (lv_at hl 2 rfl) ?_
                refine zcA_l (w := (zM k q (sJ (sJ (sJ (sA (sA (sA (sI (sI (sI (sI (sA (sA (sA (sA (sA (sA (sA (sI (sI z 28 op_13) 29 oy_14) 4 o4_74) 5 o5_75) 6 o6_76) 7 o7_77) 8 o8_78) 9 o9_79) 10 o10_80) 12 o12_81) 13 o13_82) 14 o14_83) 15 o15_84) 16 o16_85) 17 o17_86) 18 o18_87) 0 oa_88) 1 ob_89) 30 x_98))) (va_runV (As := [.int d]) (rest := [.long x_106, .ref (q 0)]) ⟨hx, hb, hml, hown, htb⟩ (c_X7_base l dC dI k q (sJ (sJ (sJ (sA (sA (sA (sI (sI (sI (sI (sA (sA (sA (sA (sA (sA (sA (sI (sI z 28 op_13) 29 oy_14) 4 o4_74) 5 o5_75) 6 o6_76) 7 o7_77) 8 o8_78) 9 o9_79) 10 o10_80) 12 o12_81) 13 o13_82) 14 o14_83) 15 o15_84) 16 o16_85) 17 o17_86) 18 o18_87) 0 oa_88) 1 ob_89) 30 x_98) d _ (by omega) hms) (cwV 1 htb (gzV wmt4_125 wmt4_127 wmp2_15 wmt1_8 wmt4_128) rfl rfl rfl (by decide +kernel) ⟨Nat.le_of_ble_eq_true rfl, Nat.le_of_ble_eq_true rfl⟩) (zpA_V (ci := 7) (q0 := 0) hK hP (hDa _) rfl rfl) rfl rfl hl.1 rfl (lv_room (Nat.le_of_ble_eq_true rfl)) dX7_refusesWays_87 ⟨Nat.le_of_ble_eq_true rfl, Nat.le_of_ble_eq_true rfl⟩) (hDa _) hS hA (fun r_107 u_108 H locs w_109 hP _ hS => ?_)
                have h_110 := w_109
                replace h_110 : r_107.toInt = 24 * (o6_76 d.toNatClampNeg).toInt := h_110
                refine lv_ldiv hx hb dX7_refusesWays_90 (z_l0ne (by omega)) ?_
                refine lv_topl (fun x_112 ex_112 => ?_)
                refine va_put (D := (dC, dI)) (ci := 7) (v := .long x_112) (ty := .long) (C := RX7) (T := TX7) (N := 42) hx hb htb inw7 tyX7 tyX7_ok nmX7 hown hK.1 hP (hDa _) hS 0 rfl rfl 31 (by decide) (htb _ wmt3_198) (fun _ h9 => h9) rfl (by decide +kernel) rfl rfl (Nat.le_of_ble_eq_true rfl) dX7_refusesWays_91 (fun H locs hP _ hS => ?_)
                have hP : va_P (dC, dI) vwCl (zM k q (sJ (sJ (sJ (sJ (sA (sA (sA (sI (sI (sI (sI (sA (sA (sA (sA (sA (sA (sA (sI (sI z 28 op_13) 29 oy_14) 4 o4_74) 5 o5_75) 6 o6_76) 7 o7_77) 8 o8_78) 9 o9_79) 10 o10_80) 12 o12_81) 13 o13_82) 14 o14_83) 15 o15_84) 16 o16_85) 17 o17_86) 18 o18_87) 0 oa_88) 1 ob_89) 30 x_98) 31 x_112)) H := hP
                refine lv_aload_n hx hb dX7_refusesWays_94 rfl (lv_at hl 0 rfl) ?_
                refine lv_aload_n hx hb dX7_refusesWays_95 rfl (lv_at hl 0 rfl) ?_
                refine lv_iload_n hx hb dX7_refusesWays_96 rfl (lv_at hl 2 rfl) ?_
                refine lv_iconst (v := 0) hx hb dX7_refusesWays_97 (by decide) ?_
                refine zcA_l (w := (zM k q (sJ (sJ (sJ (sJ (sA (sA (sA (sI (sI (sI (sI (sA (sA (sA (sA (sA (sA (sA (sI (sI z 28 op_13) 29 oy_14) 4 o4_74) 5 o5_75) 6 o6_76) 7 o7_77) 8 o8_78) 9 o9_79) 10 o10_80) 12 o12_81) 13 o13_82) 14 o14_83) 15 o15_84) 16 o16_85) 17 o17_86) 18 o18_87) 0 oa_88) 1 ob_89) 30 x_98) 31 x_112))) (va_runV (As := [.int d, .int 0]) (rest := [.ref (q 0)]) ⟨hx, hb, hml, hown, htb⟩ (c_X7_yesIf l dC dI k q (sJ (sJ (sJ (sJ (sA (sA (sA (sI (sI (sI (sI (sA (sA (sA (sA (sA (sA (sA (sI (sI z 28 op_13) 29 oy_14) 4 o4_74) 5 o5_75) 6 o6_76) 7 o7_77) 8 o8_78) 9 o9_79) 10 o10_80) 12 o12_81) 13 o13_82) 14 o14_83) 15 o15_84) 16 o16_85) 17 o17_86) 18 o18_87) 0 oa_88) 1 ob_89) 30 x_98) 31 x_112) d 0 _ hI (by omega) hms) (cwV 2 htb (gzV wmt4_120 wmt4_122 wmp2_14 wmt1_8 wmt4_123) rfl rfl rfl (by decide +kernel) ⟨Nat.le_of_ble_eq_true rfl, Nat.le_of_ble_eq_true rfl⟩) (zpA_V (ci := 7) (q0 := 0) hK hP (hDa _) rfl rfl) rfl rfl hl.1 rfl (lv_room (Nat.le_of_ble_eq_true rfl)) dX7_refusesWays_98 ⟨Nat.le_of_ble_eq_true rfl, Nat.le_of_ble_eq_true rfl⟩) (hDa _) hS hA (fun r_113 u_114 H locs w_115 hP _ hS => ?_)
                obtain ⟨h_116, h_117, h_118⟩ := w_115
                replace h_116 : 0 ≤ r_113.toInt ∧ r_113.toInt ≤ 720000 := h_116
                replace h_117 : ((o7_77 d.toNatClampNeg).toInt + (o8_78 d.toNatClampNeg).toInt + (o9_79 d.toNatClampNeg).toInt + (o10_80 d.toNatClampNeg).toInt ≤ (o6_76 d.toNatClampNeg).toInt → r_113.toInt ≤ 24 * (o6_76 d.toNatClampNeg).toInt) := h_117
                replace h_118 : r_113.toInt = yI (o7_77 d.toNatClampNeg) (o8_78 d.toNatClampNeg) (o9_79 d.toNatClampNeg) (o10_80 d.toNatClampNeg) ((z.1 11)) (0 : Int32) := h_118
                refine lv_aload_n hx hb dX7_refusesWays_101 rfl (lv_at hl 0 rfl) ?_
                refine va_get (D := (dC, dI)) (ci := 7) (v := .long x_98) (C := RX7) (T := TX7) (N := 42) hx hb htb inw7 hown hK.1 hP 0 rfl rfl 30 (by decide) (htb _ wmt3_197) (fun _ h9 => h9) rfl dX7_refusesWays_102 ?_
                refine lv_lmul hx hb dX7_refusesWays_105 ?_
                refine lv_topl (fun x_120 ex_120 => ?_)
                refine lv_aload_n hx hb dX7_refusesWays_106 rfl (lv_at hl 0 rfl) ?_
                refine lv_iload_n hx hb dX7_refusesWays_107 rfl (lv_at hl 2 rfl) ?_
                refine zcA_l (w := (zM k q (sJ (sJ (sJ (sJ (sA (sA (sA (sI (sI (sI (sI (sA (sA (sA (sA (sA (sA (sA (sI (sI z 28 op_13) 29 oy_14) 4 o4_74) 5 o5_75) 6 o6_76) 7 o7_77) 8 o8_78) 9 o9_79) 10 o10_80) 12 o12_81) 13 o13_82) 14 o14_83) 15 o15_84) 16 o16_85) 17 o17_86) 18 o18_87) 0 oa_88) 1 ob_89) 30 x_98) 31 x_112))) (va_runV (As := [.int d]) (rest := [.long x_120, .ref (q 0)]) ⟨hx, hb, hml, hown, htb⟩ (c_X7_base l dC dI k q (sJ (sJ (sJ (sJ (sA (sA (sA (sI (sI (sI (sI (sA (sA (sA (sA (sA (sA (sA (sI (sI z 28 op_13) 29 oy_14) 4 o4_74) 5 o5_75) 6 o6_76) 7 o7_77) 8 o8_78) 9 o9_79) 10 o10_80) 12 o12_81) 13 o13_82) 14 o14_83) 15 o15_84) 16 o16_85) 17 o17_86) 18 o18_87) 0 oa_88) 1 ob_89) 30 x_98) 31 x_112) d _ (by omega) hms) (cwV 1 htb (gzV wmt4_125 wmt4_127 wmp2_15 wmt1_8 wmt4_128) rfl rfl rfl (by decide +kernel) ⟨Nat.le_of_ble_eq_true rfl, Nat.le_of_ble_eq_true rfl⟩) (zpA_V (ci := 7) (q0 := 0) hK hP (hDa _) rfl rfl) rfl rfl hl.1 rfl (lv_room (Nat.le_of_ble_eq_true rfl)) dX7_refusesWays_108 ⟨Nat.le_of_ble_eq_true rfl, Nat.le_of_ble_eq_true rfl⟩) (hDa _) hS hA (fun r_121 u_122 H locs w_123 hP _ hS => ?_)
                have h_124 := w_123
                replace h_124 : r_121.toInt = 24 * (o6_76 d.toNatClampNeg).toInt := h_124
                refine lv_ldiv hx hb dX7_refusesWays_111 (z_l0ne (by omega)) ?_
                refine lv_topl (fun x_126 ex_126 => ?_)
                refine va_put (D := (dC, dI)) (ci := 7) (v := .long x_126) (ty := .long) (C := RX7) (T := TX7) (N := 42) hx hb htb inw7 tyX7 tyX7_ok nmX7 hown hK.1 hP (hDa _) hS 0 rfl rfl 32 (by decide) (htb _ wmt3_199) (fun _ h9 => h9) rfl (by decide +kernel) rfl rfl (Nat.le_of_ble_eq_true rfl) dX7_refusesWays_112 (fun H locs hP _ hS => ?_)
                have hP : va_P (dC, dI) vwCl (zM k q (sJ (sJ (sJ (sJ (sJ (sA (sA (sA (sI (sI (sI (sI (sA (sA (sA (sA (sA (sA (sA (sI (sI z 28 op_13) 29 oy_14) 4 o4_74) 5 o5_75) 6 o6_76) 7 o7_77) 8 o8_78) 9 o9_79) 10 o10_80) 12 o12_81) 13 o13_82) 14 o14_83) 15 o15_84) 16 o16_85) 17 o17_86) 18 o18_87) 0 oa_88) 1 ob_89) 30 x_98) 31 x_112) 32 x_126)) H := hP
                refine lv_iconst (v := 0) hx hb dX7_refusesWays_115 (by decide) ?_
                exact W.iret (v := 0) hx hb hr (fun t ht hW => ⟨⟨0, (o4_74, o5_75, o6_76, o7_77, o8_78, o9_79, o10_80, o12_81, o13_82, o14_83, o15_84, o16_85, o17_86, o18_87, op_13, oy_14, oa_88, ob_89, x_98, x_112, x_126), rfl, (show (MD (FR (z.2.2.1 2) (z.2.2.1 3)) o4_74 o5_75 o6_76 o7_77 o8_78 o9_79 o10_80) ∧ ((0 : Int32).toInt = 0 → ((0 ≤ g.toInt ∧ g.toInt < 4) ∧ (0 ≤ d.toInt ∧ d.toInt < 4)) ∧ (0 ≤ oy_14.toInt ∧ oy_14.toInt ≤ op_13.toInt ∧ op_13.toInt ≤ 12) ∧ n.toInt ≤ op_13.toInt ∧ 0 ≤ n.toInt ∧ (1 ≤ x_98.toInt ∧ x_98.toInt ≤ 24)) ∧ (¬ (0 : Int32).toInt = 0 → (0 : Int32).toInt < 0) from ⟨hI.2.2.2.2.2, fun _ => ⟨by omega, by omega, by omega, by omega, by omega⟩, fun q9 => absurd (by decide) q9⟩), ⟨by rw [ht]; exact hP, hDa _⟩⟩, hS.F ht⟩) hS.2.2 dX7_refusesWays_116
              · skip
                have hc_70 := zb_nle rfl (show (24 : Int32).toInt = 24 by decide) c_70
                refine lv_bipush (v := (-4)) hx hb dX7_refusesWays_60 (by decide) ?_
                exact W.iret (v := (-4)) hx hb hr (fun t ht hW => ⟨⟨(-4), (o4_46, o5_47, o6_48, o7_49, o8_50, o9_51, o10_52, o12_53, o13_54, o14_55, o15_56, o16_57, o17_58, o18_59, op_13, oy_14, oa_60, ob_61, z.2.1 30, z.2.1 31, z.2.1 32), rfl, (show (MD (FR (z.2.2.1 2) (z.2.2.1 3)) o4_46 o5_47 o6_48 o7_49 o8_50 o9_51 o10_52) ∧ (((-4) : Int32).toInt = 0 → ((0 ≤ g.toInt ∧ g.toInt < 4) ∧ (0 ≤ d.toInt ∧ d.toInt < 4)) ∧ (0 ≤ oy_14.toInt ∧ oy_14.toInt ≤ op_13.toInt ∧ op_13.toInt ≤ 12) ∧ n.toInt ≤ op_13.toInt ∧ 0 ≤ n.toInt ∧ (1 ≤ (z.2.1 30).toInt ∧ (z.2.1 30).toInt ≤ 24)) ∧ (¬ ((-4) : Int32).toInt = 0 → ((-4) : Int32).toInt < 0) from ⟨hI.2.2.2.2.2, fun q9 => absurd q9 (by decide), fun _ => by decide⟩), ⟨by rw [ht]; exact hP, hDa _⟩⟩, hS.F ht⟩) hS.2.2 dX7_refusesWays_62
          · skip
            have hc_41 := zb_nle rfl rfl c_41
            refine lv_bipush (v := (-3)) hx hb dX7_refusesWays_38 (by decide) ?_
            exact W.iret (v := (-3)) hx hb hr (fun t ht hW => ⟨⟨(-3), (o4_20, o5_21, o6_22, o7_23, o8_24, o9_25, o10_26, o12_27, o13_28, o14_29, o15_30, o16_31, o17_32, o18_33, op_13, oy_14, z.2.1 0, z.2.1 1, z.2.1 30, z.2.1 31, z.2.1 32), rfl, (show (MD (FR (z.2.2.1 2) (z.2.2.1 3)) o4_20 o5_21 o6_22 o7_23 o8_24 o9_25 o10_26) ∧ (((-3) : Int32).toInt = 0 → ((0 ≤ g.toInt ∧ g.toInt < 4) ∧ (0 ≤ d.toInt ∧ d.toInt < 4)) ∧ (0 ≤ oy_14.toInt ∧ oy_14.toInt ≤ op_13.toInt ∧ op_13.toInt ≤ 12) ∧ n.toInt ≤ op_13.toInt ∧ 0 ≤ n.toInt ∧ (1 ≤ (z.2.1 30).toInt ∧ (z.2.1 30).toInt ≤ 24)) ∧ (¬ ((-3) : Int32).toInt = 0 → ((-3) : Int32).toInt < 0) from ⟨hI.2.2.2.2.2, fun q9 => absurd q9 (by decide), fun _ => by decide⟩), ⟨by rw [ht]; exact hP, hDa _⟩⟩, hS.F ht⟩) hS.2.2 dX7_refusesWays_40
      · skip
        have hc_9 := zb_nle (show (0 : Int32).toInt = 0 by decide) rfl c_9
        refine lv_bipush (v := (-2)) hx hb dX7_refusesWays_12 (by decide) ?_
        exact W.iret (v := (-2)) hx hb hr (fun t ht hW => ⟨⟨(-2), (z.2.2.1 4, z.2.2.1 5, z.2.2.1 6, z.2.2.1 7, z.2.2.1 8, z.2.2.1 9, z.2.2.1 10, z.1 12, z.1 13, z.1 14, z.1 15, z.2.2.1 16, z.2.2.1 17, z.2.2.1 18, z.1 28, z.1 29, z.2.1 0, z.2.1 1, z.2.1 30, z.2.1 31, z.2.1 32), rfl, (show (MD (FR (z.2.2.1 2) (z.2.2.1 3)) (z.2.2.1 4) (z.2.2.1 5) (z.2.2.1 6) (z.2.2.1 7) (z.2.2.1 8) (z.2.2.1 9) (z.2.2.1 10)) ∧ (((-2) : Int32).toInt = 0 → ((0 ≤ g.toInt ∧ g.toInt < 4) ∧ (0 ≤ d.toInt ∧ d.toInt < 4)) ∧ (0 ≤ (z.1 29).toInt ∧ (z.1 29).toInt ≤ (z.1 28).toInt ∧ (z.1 28).toInt ≤ 12) ∧ n.toInt ≤ (z.1 28).toInt ∧ 0 ≤ n.toInt ∧ (1 ≤ (z.2.1 30).toInt ∧ (z.2.1 30).toInt ≤ 24)) ∧ (¬ ((-2) : Int32).toInt = 0 → ((-2) : Int32).toInt < 0) from ⟨hI.2.2.2.2.2, fun q9 => absurd q9 (by decide), fun _ => by decide⟩), ⟨by rw [ht]; exact hP, hDa _⟩⟩, hS.F ht⟩) hS.2.2 dX7_refusesWays_14
  · skip
    replace e_7 : r_1 = 0 := e_7
    subst e_7
    replace h_6 : ¬ ((0 ≤ g.toInt ∧ g.toInt < 4) ∧ (0 ≤ d.toInt ∧ d.toInt < 4)) := h_6
    refine lv_if_eq (tgt := 12) hx hb dX7_refusesWays_5 (by decide) (fun c_127 => ?_) (fun c_127 => ?_)
    · skip
      refine lv_bipush (v := (-2)) hx hb dX7_refusesWays_12 (by decide) ?_
      exact W.iret (v := (-2)) hx hb hr (fun t ht hW => ⟨⟨(-2), (z.2.2.1 4, z.2.2.1 5, z.2.2.1 6, z.2.2.1 7, z.2.2.1 8, z.2.2.1 9, z.2.2.1 10, z.1 12, z.1 13, z.1 14, z.1 15, z.2.2.1 16, z.2.2.1 17, z.2.2.1 18, z.1 28, z.1 29, z.2.1 0, z.2.1 1, z.2.1 30, z.2.1 31, z.2.1 32), rfl, (show (MD (FR (z.2.2.1 2) (z.2.2.1 3)) (z.2.2.1 4) (z.2.2.1 5) (z.2.2.1 6) (z.2.2.1 7) (z.2.2.1 8) (z.2.2.1 9) (z.2.2.1 10)) ∧ (((-2) : Int32).toInt = 0 → ((0 ≤ g.toInt ∧ g.toInt < 4) ∧ (0 ≤ d.toInt ∧ d.toInt < 4)) ∧ (0 ≤ (z.1 29).toInt ∧ (z.1 29).toInt ≤ (z.1 28).toInt ∧ (z.1 28).toInt ≤ 12) ∧ n.toInt ≤ (z.1 28).toInt ∧ 0 ≤ n.toInt ∧ (1 ≤ (z.2.1 30).toInt ∧ (z.2.1 30).toInt ≤ 24)) ∧ (¬ ((-2) : Int32).toInt = 0 → ((-2) : Int32).toInt < 0) from ⟨hI.2.2.2.2.2, fun q9 => absurd q9 (by decide), fun _ => by decide⟩), ⟨by rw [ht]; exact hP, hDa _⟩⟩, hS.F ht⟩) hS.2.2 dX7_refusesWays_14
    · skip
      exact absurd (by decide) c_127
set_option maxHeartbeats 4000000 in
set_option maxRecDepth 100000 in
theorem c_X7_likelyNow (l : Launch) (dC : Nat → ClassId) (dI : Nat → Nat → Nat) (k : Nat → ClassId) (q : Nat → Nat) (z : ZS) (sz : Nat) (hp : 0 ≤ (z.1 28).toInt ∧ (z.1 28).toInt ≤ 12) (hp2 : 0 ≤ (z.1 29).toInt ∧ (z.1 29).toInt ≤ 1000) : Met l yX7_likelyNow (wz yX7_likelyNow cX7_likelyNow 3 (some .int)) ({ frames := 2, cells := 0, slots := 0, locals := 56 }) (va_Pc [.ref (q 0)] (zPre dC dI k (zTX k) (zM k q z) sz)) (va_Qi (fun (r : Int32) (u : Unit) => (0 ≤ r.toInt ∧ r.toInt ≤ 12 ∧ (r.toInt ≤ (z.1 28).toInt ∨ r.toInt = 0))) (fun u t => zPost dC dI (va_A (zM k q z) sz) (zM k q z) t) (va_A (zM k q z) sz)) 0 0 (va_A (zM k q z) sz) := by
  refine Met.ofW (cc := cX7_likelyNow) (maxL := 3) (ret := (some .int)) (by decide) rfl ?_
  intro p e s m args below meth c s₁ B hml hv
  obtain ⟨rfl, hsz, hP, hK, hD0⟩ := hv
  have hx := B.exec
  have hb := B.bytes
  have hr := B.returns
  have hts := atoms_spec (ws := wz yX7_likelyNow cX7_likelyNow 3 (some .int)) B.pre
  have htb : ∀ w ∈ zw, w.before _ s = true := fun w h => hts w (List.mem_cons_of_mem _ h)
  have hown : s.vm.findClass RX7 = some m.cls := findClass_of_methodNamed B.named
  have hlocks := B.notSynchronized
  clear hts
  subst hsz
  have hD := hD0.self (sz := s.heap.size)
  generalize hAe : va_A (zM k q z) s.heap.size = A at hD ⊢
  have hA : ∀ q : Nat, s.heap.size ≤ q → A q := fun q h => by rw [← hAe]; exact Or.inr h
  have hDa : ∀ z9 : ZS, va_D A (zM k q z9) := fun z9 => va_D_adr (w := zM k q z) rfl hD
  have hl := lv_entry ([.ref (q 0)]) (n := 3) (Nat.le_of_ble_eq_true rfl)
  rw [lg_entry_eq]
  generalize (lg_sl ([.ref (q 0)]) ++ List.replicate (3 - (lg_sl ([.ref (q 0)])).length) Slot.unset).toArray = ls at hl ⊢
  have hl : lv_has ls 3 [(0, .ref (q 0))] := hl
  refine z_start2 (A := A) (w := (zM k q z)) hP (fun H locs hP hS => ?_)
  clear hD0 hAe
  refine lv_iconst (v := 0) hx hb dX7_likelyNow_0 (by decide) ?_
  refine lv_istore_n (lv' := [(1, .int 0), (0, .ref (q 0))]) hx hb dX7_likelyNow_1 rfl hl (by decide) rfl (fun ls hl => ?_)
  refine lv_iconst (v := 1) hx hb dX7_likelyNow_2 (by decide) ?_
  refine lv_istore_n (lv' := [(2, .int 1), (1, .int 0), (0, .ref (q 0))]) hx hb dX7_likelyNow_3 rfl hl (by decide) rfl (fun ls hl => ?_)
  obtain ⟨bs, ebs⟩ : ∃ x : Int32, 0 = x := ⟨_, rfl⟩
  obtain ⟨i, ei⟩ : ∃ x : Int32, 1 = x := ⟨_, rfl⟩
  have hv4 : (1 ≤ i.toInt ∧ i.toInt ≤ (z.1 28).toInt + 1) ∧ (0 ≤ bs.toInt ∧ bs.toInt ≤ (z.1 28).toInt) := by subst ebs ei; exact ⟨⟨by decide, by have q : (1 : Int32).toInt = 1 := (by decide); omega⟩, ⟨by decide, by have q : (0 : Int32).toInt = 0 := (by decide); omega⟩⟩
  replace hl : lv_has ls 3 [(2, .int i), (1, .int bs), (0, .ref (q 0))] := by subst ebs ei; exact hl
  clear ebs ei
  obtain ⟨mm4, hm4⟩ : ∃ mm : Nat, mm = (14 - i.toInt).toNat := ⟨_, rfl⟩
  refine z_cut2 hP hS hl ?_
  clear hl hP
  intro H locs ls hP hS hl
  induction mm4 using Nat.strongRecOn generalizing bs i H locs ls with
  | _ mm4 ih4 =>
    obtain ⟨hi, hbs⟩ := hv4
    refine lv_iload_n hx hb dX7_likelyNow_4 rfl (lv_at hl 0 rfl) ?_
    refine lv_aload_n hx hb dX7_likelyNow_5 rfl (lv_at hl 2 rfl) ?_
    refine va_get (D := (dC, dI)) (ci := 7) (v := .int (z.1 28)) (C := RX7) (T := TX7) (N := 42) hx hb htb inw7 hown hK.1 hP 0 rfl rfl 28 (by decide) (htb _ wmt3_195) (fun _ h9 => h9) rfl dX7_likelyNow_6 ?_
    refine lv_topi (fun x_1 ex_1 => ?_)
    have hx_1 : x_1.toInt = (z.1 28).toInt := by rw [ex_1]
    refine lv_icmp_gt (tgt := 54) hx hb dX7_likelyNow_9 (by decide) (fun c_2 => ?_) (fun c_2 => ?_)
    · skip
      have hc_2 := zb_lt rfl rfl c_2
      refine lv_iload_n hx hb dX7_likelyNow_54 rfl (lv_at hl 1 rfl) ?_
      exact W.iret (v := bs) hx hb hr (fun t ht hW => ⟨⟨bs, (), rfl, (by omega), ⟨by rw [ht]; exact hP, hDa _⟩⟩, hS.F ht⟩) hS.2.2 dX7_likelyNow_55
    · skip
      have hc_2 := zb_nlt rfl rfl c_2
      refine lv_aload_n hx hb dX7_likelyNow_12 rfl (lv_at hl 2 rfl) ?_
      refine lv_aload_n hx hb dX7_likelyNow_13 rfl (lv_at hl 2 rfl) ?_
      refine va_get (D := (dC, dI)) (ci := 7) (v := .int (z.1 28)) (C := RX7) (T := TX7) (N := 42) hx hb htb inw7 hown hK.1 hP 0 rfl rfl 28 (by decide) (htb _ wmt3_195) (fun _ h9 => h9) rfl dX7_likelyNow_14 ?_
      refine z_top (v2 := .int x_1) (congrArg Value.int ex_1.symm) ?_
      refine lv_iload_n hx hb dX7_likelyNow_17 rfl (lv_at hl 0 rfl) ?_
      refine lv_aload_n hx hb dX7_likelyNow_18 rfl (lv_at hl 2 rfl) ?_
      refine va_get (D := (dC, dI)) (ci := 7) (v := .int (z.1 29)) (C := RX7) (T := TX7) (N := 42) hx hb htb inw7 hown hK.1 hP 0 rfl rfl 29 (by decide) (htb _ wmt3_196) (fun _ h9 => h9) rfl dX7_likelyNow_19 ?_
      refine lv_topi (fun x_3 ex_3 => ?_)
      have hx_3 : x_3.toInt = (z.1 29).toInt := by rw [ex_3]
      refine zcA_l (w := (zM k q z)) (va_runV (As := [.int x_1, .int i, .int x_3]) (rest := []) ⟨hx, hb, hml, hown, htb⟩ (c_X7_waysOf l dC dI k q z x_1 i x_3 _ (show 0 ≤ i.toInt ∧ i.toInt ≤ x_1.toInt ∧ x_1.toInt ≤ 12 by omega) (show 0 ≤ x_3.toInt ∧ x_3.toInt ≤ 1000 by omega)) (cwV 3 htb (gzV wmt4_229 wmt4_231 wmp3_10 wmt1_8 wmt4_232) rfl rfl rfl (by decide +kernel) ⟨Nat.le_of_ble_eq_true rfl, Nat.le_of_ble_eq_true rfl⟩) (zpA_V (ci := 7) (q0 := 0) hK hP (hDa _) rfl rfl) rfl rfl hl.1 rfl (lv_room (Nat.le_of_ble_eq_true rfl)) dX7_likelyNow_22 ⟨Nat.le_of_ble_eq_true rfl, Nat.le_of_ble_eq_true rfl⟩) (hDa _) hS hA (fun r_4 u_5 H locs w_6 hP _ hS => ?_)
      refine lv_aload_n hx hb dX7_likelyNow_25 rfl (lv_at hl 2 rfl) ?_
      refine lv_aload_n hx hb dX7_likelyNow_26 rfl (lv_at hl 2 rfl) ?_
      refine va_get (D := (dC, dI)) (ci := 7) (v := .int (z.1 28)) (C := RX7) (T := TX7) (N := 42) hx hb htb inw7 hown hK.1 hP 0 rfl rfl 28 (by decide) (htb _ wmt3_195) (fun _ h9 => h9) rfl dX7_likelyNow_27 ?_
      refine z_top (v2 := .int x_1) (congrArg Value.int ex_1.symm) ?_
      refine lv_iload_n hx hb dX7_likelyNow_30 rfl (lv_at hl 1 rfl) ?_
      refine lv_aload_n hx hb dX7_likelyNow_31 rfl (lv_at hl 2 rfl) ?_
      refine va_get (D := (dC, dI)) (ci := 7) (v := .int (z.1 29)) (C := RX7) (T := TX7) (N := 42) hx hb htb inw7 hown hK.1 hP 0 rfl rfl 29 (by decide) (htb _ wmt3_196) (fun _ h9 => h9) rfl dX7_likelyNow_32 ?_
      refine z_top (v2 := .int x_3) (congrArg Value.int ex_3.symm) ?_
      refine zcA_l (w := (zM k q z)) (va_runV (As := [.int x_1, .int bs, .int x_3]) (rest := [.long r_4]) ⟨hx, hb, hml, hown, htb⟩ (c_X7_waysOf l dC dI k q z x_1 bs x_3 _ (show 0 ≤ bs.toInt ∧ bs.toInt ≤ x_1.toInt ∧ x_1.toInt ≤ 12 by omega) (show 0 ≤ x_3.toInt ∧ x_3.toInt ≤ 1000 by omega)) (cwV 3 htb (gzV wmt4_229 wmt4_231 wmp3_10 wmt1_8 wmt4_232) rfl rfl rfl (by decide +kernel) ⟨Nat.le_of_ble_eq_true rfl, Nat.le_of_ble_eq_true rfl⟩) (zpA_V (ci := 7) (q0 := 0) hK hP (hDa _) rfl rfl) rfl rfl hl.1 rfl (lv_room (Nat.le_of_ble_eq_true rfl)) dX7_likelyNow_35 ⟨Nat.le_of_ble_eq_true rfl, Nat.le_of_ble_eq_true rfl⟩) (hDa _) hS hA (fun r_7 u_8 H locs w_9 hP _ hS => ?_)
      refine z_lcmp hx hb dX7_likelyNow_38 ?_
      refine lv_if_le (tgt := 46) hx hb dX7_likelyNow_39 (by decide) (fun c_10 => ?_) (fun c_10 => ?_)
      · skip
        have hc_10 := zl_le rfl rfl c_10
        refine lv_iload_n hx hb dX7_likelyNow_46 rfl (lv_at hl 1 rfl) ?_
        refine lv_istore_n (lv' := [(1, .int bs), (2, .int i), (0, .ref (q 0))]) hx hb dX7_likelyNow_47 rfl hl (by decide) rfl (fun ls hl => ?_)
        obtain ⟨x_11, ex_11⟩ : ∃ y : Int32, y = i + 1 := ⟨_, rfl⟩
        have hx_11 : x_11.toInt = i.toInt + 1 := z_add ex_11 rfl (show (1 : Int32).toInt = 1 by decide) (by omega)
        refine lv_iinc (v := x_11) (lv' := [(2, .int x_11), (1, .int bs), (0, .ref (q 0))]) hx hb dX7_likelyNow_48 hl (k := 1) rfl (by rw [ex_11]; rfl) (by decide) rfl (fun ls hl => ?_)
        refine lv_goto (tgt := 4) hx hb dX7_likelyNow_51 (by decide) ?_
        exact ih4 ((14 - x_11.toInt).toNat) (by omega) bs x_11 ⟨(show 1 ≤ x_11.toInt ∧ x_11.toInt ≤ (z.1 28).toInt + 1 by omega), (show 0 ≤ bs.toInt ∧ bs.toInt ≤ (z.1 28).toInt by omega)⟩ rfl H locs ls hP hS (lv_sub hl [0, 1, 2] rfl)
      · skip
        have hc_10 := zl_nle rfl rfl c_10
        refine lv_iload_n hx hb dX7_likelyNow_42 rfl (lv_at hl 0 rfl) ?_
        refine lv_goto (tgt := 47) hx hb dX7_likelyNow_43 (by decide) ?_
        refine lv_istore_n (lv' := [(1, .int i), (2, .int i), (0, .ref (q 0))]) hx hb dX7_likelyNow_47 rfl hl (by decide) rfl (fun ls hl => ?_)
        obtain ⟨x_12, ex_12⟩ : ∃ y : Int32, y = i + 1 := ⟨_, rfl⟩
        have hx_12 : x_12.toInt = i.toInt + 1 := z_add ex_12 rfl (show (1 : Int32).toInt = 1 by decide) (by omega)
        refine lv_iinc (v := x_12) (lv' := [(2, .int x_12), (1, .int i), (0, .ref (q 0))]) hx hb dX7_likelyNow_48 hl (k := 1) rfl (by rw [ex_12]; rfl) (by decide) rfl (fun ls hl => ?_)
        refine lv_goto (tgt := 4) hx hb dX7_likelyNow_51 (by decide) ?_
        exact ih4 ((14 - x_12.toInt).toNat) (by omega) i x_12 ⟨(show 1 ≤ x_12.toInt ∧ x_12.toInt ≤ (z.1 28).toInt + 1 by omega), (show 0 ≤ i.toInt ∧ i.toInt ≤ (z.1 28).toInt by omega)⟩ rfl H locs ls hP hS (lv_sub hl [0, 1, 2] rfl)
set_option maxHeartbeats 4000000 in
set_option maxRecDepth 100000 in
theorem c_X7_likelyOf (l : Launch) (dC : Nat → ClassId) (dI : Nat → Nat → Nat) (k : Nat → ClassId) (q : Nat → Nat) (z : ZS) (g : Int32) (d : Int32) (sz : Nat) (hI : MInv z) : Met l yX7_likelyOf (wz yX7_likelyOf cX7_likelyOf 4 (some .int)) ({ frames := 7, cells := 0, slots := 0, locals := 160 }) (va_Pc [.ref (q 0), .int g, .int d] (zPre dC dI k (zTX k) (zM k q z) sz)) (va_Qi (fun (r : Int32) (u : (Nat → Int32) × (Nat → Int32) × (Nat → Int32) × (Nat → Int32) × (Nat → Int32) × (Nat → Int32) × (Nat → Int32) × Int32 × Int32 × Int32 × Int32 × (Nat → Int32) × (Nat → Int32) × (Nat → Int32) × Int32 × Int32 × Int64 × Int64 × Int64 × Int64 × Int64) => (MD (FR (z.2.2.1 2) (z.2.2.1 3)) u.1 u.2.1 u.2.2.1 u.2.2.2.1 u.2.2.2.2.1 u.2.2.2.2.2.1 u.2.2.2.2.2.2.1)) (fun u t => zPost dC dI (va_A (zM k q z) sz) (zM k q (sJ (sJ (sJ (sJ (sJ (sI (sI (sA (sA (sA (sI (sI (sI (sI (sA (sA (sA (sA (sA (sA (sA z 4 u.1) 5 u.2.1) 6 u.2.2.1) 7 u.2.2.2.1) 8 u.2.2.2.2.1) 9 u.2.2.2.2.2.1) 10 u.2.2.2.2.2.2.1) 12 u.2.2.2.2.2.2.2.1) 13 u.2.2.2.2.2.2.2.2.1) 14 u.2.2.2.2.2.2.2.2.2.1) 15 u.2.2.2.2.2.2.2.2.2.2.1) 16 u.2.2.2.2.2.2.2.2.2.2.2.1) 17 u.2.2.2.2.2.2.2.2.2.2.2.2.1) 18 u.2.2.2.2.2.2.2.2.2.2.2.2.2.1) 28 u.2.2.2.2.2.2.2.2.2.2.2.2.2.2.1) 29 u.2.2.2.2.2.2.2.2.2.2.2.2.2.2.2.1) 0 u.2.2.2.2.2.2.2.2.2.2.2.2.2.2.2.2.1) 1 u.2.2.2.2.2.2.2.2.2.2.2.2.2.2.2.2.2.1) 30 u.2.2.2.2.2.2.2.2.2.2.2.2.2.2.2.2.2.2.1) 31 u.2.2.2.2.2.2.2.2.2.2.2.2.2.2.2.2.2.2.2.1) 32 u.2.2.2.2.2.2.2.2.2.2.2.2.2.2.2.2.2.2.2.2)) t) (va_A (zM k q z) sz)) 0 0 (va_A (zM k q z) sz) := by
  refine Met.ofW (cc := cX7_likelyOf) (maxL := 4) (ret := (some .int)) (by decide) rfl ?_
  intro p e s m args below meth c s₁ B hml hv
  obtain ⟨rfl, hsz, hP, hK, hD0⟩ := hv
  have hx := B.exec
  have hb := B.bytes
  have hr := B.returns
  have hts := atoms_spec (ws := wz yX7_likelyOf cX7_likelyOf 4 (some .int)) B.pre
  have htb : ∀ w ∈ zw, w.before _ s = true := fun w h => hts w (List.mem_cons_of_mem _ h)
  have hown : s.vm.findClass RX7 = some m.cls := findClass_of_methodNamed B.named
  have hlocks := B.notSynchronized
  clear hts
  subst hsz
  have hD := hD0.self (sz := s.heap.size)
  generalize hAe : va_A (zM k q z) s.heap.size = A at hD ⊢
  have hA : ∀ q : Nat, s.heap.size ≤ q → A q := fun q h => by rw [← hAe]; exact Or.inr h
  have hDa : ∀ z9 : ZS, va_D A (zM k q z9) := fun z9 => va_D_adr (w := zM k q z) rfl hD
  have hl := lv_entry ([.ref (q 0), .int g, .int d]) (n := 4) (Nat.le_of_ble_eq_true rfl)
  rw [lg_entry_eq]
  generalize (lg_sl ([.ref (q 0), .int g, .int d]) ++ List.replicate (4 - (lg_sl ([.ref (q 0), .int g, .int d])).length) Slot.unset).toArray = ls at hl ⊢
  have hl : lv_has ls 4 [(0, .ref (q 0)), (1, .int g), (2, .int d)] := hl
  refine z_start2 (A := A) (w := (zM k q z)) hP (fun H locs hP hS => ?_)
  clear hD0 hAe
  refine lv_aload_n hx hb dX7_likelyOf_0 rfl (lv_at hl 0 rfl) ?_
  refine lv_iload_n hx hb dX7_likelyOf_1 rfl (lv_at hl 1 rfl) ?_
  refine lv_iload_n hx hb dX7_likelyOf_2 rfl (lv_at hl 2 rfl) ?_
  refine lv_iconst (v := 0) hx hb dX7_likelyOf_3 (by decide) ?_
  refine zcA_i (w := (zM k q z)) (va_runV (As := [.int g, .int d, .int 0]) (rest := []) ⟨hx, hb, hml, hown, htb⟩ (c_X7_refusesWays l dC dI k q z g d 0 _ hI) (cwV 3 htb (gzV wmt4_225 wmt4_227 wmp3_9 wmt1_8 wmt4_228) rfl rfl rfl (by decide +kernel) ⟨Nat.le_of_ble_eq_true rfl, Nat.le_of_ble_eq_true rfl⟩) (zpA_V (ci := 7) (q0 := 0) hK hP (hDa _) rfl rfl) rfl rfl hl.1 rfl (lv_room (Nat.le_of_ble_eq_true rfl)) dX7_likelyOf_4 ⟨Nat.le_of_ble_eq_true rfl, Nat.le_of_ble_eq_true rfl⟩) (hDa _) hS hA (fun r_1 u_2 H locs w_3 hP _ hS => ?_)
  obtain ⟨o4_4, o5_5, o6_6, o7_7, o8_8, o9_9, o10_10, o12_11, o13_12, o14_13, o15_14, o16_15, o17_16, o18_17, op_18, oy_19, oa_20, ob_21, ou_22, oh_23, on_24⟩ := u_2
  have hP : va_P (dC, dI) vwCl (zM k q (sJ (sJ (sJ (sJ (sJ (sI (sI (sA (sA (sA (sI (sI (sI (sI (sA (sA (sA (sA (sA (sA (sA z 4 o4_4) 5 o5_5) 6 o6_6) 7 o7_7) 8 o8_8) 9 o9_9) 10 o10_10) 12 o12_11) 13 o13_12) 14 o14_13) 15 o15_14) 16 o16_15) 17 o17_16) 18 o18_17) 28 op_18) 29 oy_19) 0 oa_20) 1 ob_21) 30 ou_22) 31 oh_23) 32 on_24)) H := hP
  obtain ⟨h_25, h_26, h_27⟩ := w_3
  replace h_25 : MD (FR ((z.2.2.1 2)) ((z.2.2.1 3))) o4_4 o5_5 o6_6 o7_7 o8_8 o9_9 o10_10 := h_25
  replace h_26 : r_1.toInt = 0 → ((0 ≤ g.toInt ∧ g.toInt < 4) ∧ (0 ≤ d.toInt ∧ d.toInt < 4)) ∧ (0 ≤ oy_19.toInt ∧ oy_19.toInt ≤ op_18.toInt ∧ op_18.toInt ≤ 12) ∧ (0 : Int32).toInt ≤ op_18.toInt ∧ 0 ≤ (0 : Int32).toInt ∧ (1 ≤ ou_22.toInt ∧ ou_22.toInt ≤ 24) := h_26
  rw [show (0 : Int32).toInt = 0 by decide] at h_26
  replace h_27 : ¬ r_1.toInt = 0 → r_1.toInt < 0 := h_27
  have hI : MInv (sJ (sJ (sJ (sJ (sJ (sI (sI (sA (sA (sA (sI (sI (sI (sI (sA (sA (sA (sA (sA (sA (sA z 4 o4_4) 5 o5_5) 6 o6_6) 7 o7_7) 8 o8_8) 9 o9_9) 10 o10_10) 12 o12_11) 13 o13_12) 14 o14_13) 15 o15_14) 16 o16_15) 17 o17_16) 18 o18_17) 28 op_18) 29 oy_19) 0 oa_20) 1 ob_21) 30 ou_22) 31 oh_23) 32 on_24) := ⟨hI.1, hI.2.1, hI.2.2.1, hI.2.2.2.1, hI.2.2.2.2.1, h_25⟩
  have hrw := h_26
  have hrn := h_27
  refine lv_istore_n (lv' := [(3, .int r_1), (0, .ref (q 0)), (1, .int g), (2, .int d)]) hx hb dX7_likelyOf_7 rfl hl (by decide) rfl (fun ls hl => ?_)
  refine lv_iload_n hx hb dX7_likelyOf_8 rfl (lv_at hl 0 rfl) ?_
  refine lv_if_eq (tgt := 16) hx hb dX7_likelyOf_9 (by decide) (fun c_29 => ?_) (fun c_29 => ?_)
  · skip
    have hc_29 := zb_eq rfl (show (0 : Int32).toInt = 0 by decide) c_29
    obtain ⟨hr1, hr2, hr3, hr4, hr5⟩ := hrw (by omega)
    refine lv_aload_n hx hb dX7_likelyOf_16 rfl (lv_at hl 1 rfl) ?_
    refine zcA_i (w := (zM k q (sJ (sJ (sJ (sJ (sJ (sI (sI (sA (sA (sA (sI (sI (sI (sI (sA (sA (sA (sA (sA (sA (sA z 4 o4_4) 5 o5_5) 6 o6_6) 7 o7_7) 8 o8_8) 9 o9_9) 10 o10_10) 12 o12_11) 13 o13_12) 14 o14_13) 15 o15_14) 16 o16_15) 17 o17_16) 18 o18_17) 28 op_18) 29 oy_19) 0 oa_20) 1 ob_21) 30 ou_22) 31 oh_23) 32 on_24))) (va_runV (As := []) (rest := []) ⟨hx, hb, hml, hown, htb⟩ (c_X7_likelyNow l dC dI k q (sJ (sJ (sJ (sJ (sJ (sI (sI (sA (sA (sA (sI (sI (sI (sI (sA (sA (sA (sA (sA (sA (sA z 4 o4_4) 5 o5_5) 6 o6_6) 7 o7_7) 8 o8_8) 9 o9_9) 10 o10_10) 12 o12_11) 13 o13_12) 14 o14_13) 15 o15_14) 16 o16_15) 17 o17_16) 18 o18_17) 28 op_18) 29 oy_19) 0 oa_20) 1 ob_21) 30 ou_22) 31 oh_23) 32 on_24) _ (show 0 ≤ (op_18).toInt ∧ (op_18).toInt ≤ 12 by omega) (show 0 ≤ (oy_19).toInt ∧ (oy_19).toInt ≤ 1000 by omega)) (cwV 0 htb (gzV wmt5_7 wmt5_9 wmp3_12 wmt1_8 wmt5_10) rfl rfl rfl (by decide +kernel) ⟨Nat.le_of_ble_eq_true rfl, Nat.le_of_ble_eq_true rfl⟩) (zpA_V (ci := 7) (q0 := 0) hK hP (hDa _) rfl rfl) rfl rfl hl.1 rfl (lv_room (Nat.le_of_ble_eq_true rfl)) dX7_likelyOf_17 ⟨Nat.le_of_ble_eq_true rfl, Nat.le_of_ble_eq_true rfl⟩) (hDa _) hS hA (fun r_30 u_31 H locs w_32 hP _ hS => ?_)
    have h_33 := w_32
    replace h_33 : 0 ≤ r_30.toInt ∧ r_30.toInt ≤ 12 ∧ (r_30.toInt ≤ (op_18).toInt ∨ r_30.toInt = 0) := h_33
    exact W.iret (v := r_30) hx hb hr (fun t ht hW => ⟨⟨r_30, (o4_4, o5_5, o6_6, o7_7, o8_8, o9_9, o10_10, o12_11, o13_12, o14_13, o15_14, o16_15, o17_16, o18_17, op_18, oy_19, oa_20, ob_21, ou_22, oh_23, on_24), rfl, (show (MD (FR (z.2.2.1 2) (z.2.2.1 3)) o4_4 o5_5 o6_6 o7_7 o8_8 o9_9 o10_10) from hI.2.2.2.2.2), ⟨by rw [ht]; exact hP, hDa _⟩⟩, hS.F ht⟩) hS.2.2 dX7_likelyOf_20
  · skip
    have hc_29 := zb_ne rfl (show (0 : Int32).toInt = 0 by decide) c_29
    refine lv_iload_n hx hb dX7_likelyOf_12 rfl (lv_at hl 0 rfl) ?_
    refine lv_goto (tgt := 20) hx hb dX7_likelyOf_13 (by decide) ?_
    exact W.iret (v := r_1) hx hb hr (fun t ht hW => ⟨⟨r_1, (o4_4, o5_5, o6_6, o7_7, o8_8, o9_9, o10_10, o12_11, o13_12, o14_13, o15_14, o16_15, o17_16, o18_17, op_18, oy_19, oa_20, ob_21, ou_22, oh_23, on_24), rfl, (show (MD (FR (z.2.2.1 2) (z.2.2.1 3)) o4_4 o5_5 o6_6 o7_7 o8_8 o9_9 o10_10) from hI.2.2.2.2.2), ⟨by rw [ht]; exact hP, hDa _⟩⟩, hS.F ht⟩) hS.2.2 dX7_likelyOf_20
set_option maxHeartbeats 4000000 in
set_option maxRecDepth 100000 in
theorem c_X7_likely (l : Launch) (dC : Nat → ClassId) (dI : Nat → Nat → Nat) (k : Nat → ClassId) (q : Nat → Nat) (z : ZS) (g : Int32) (d : Int32) (sz : Nat) (hI : MInv z) : Met l yX7_likely (wz yX7_likely cX7_likely 3 (some .int)) ({ frames := 8, cells := 0, slots := 0, locals := 183 }) (va_Pc [.ref (q 0), .int g, .int d] (zPre dC dI k (zTX k) (zM k q z) sz)) (va_Qi (fun (r : Int32) (u : (Nat → Int32) × (Nat → Int32) × (Nat → Int32) × (Nat → Int32) × (Nat → Int32) × (Nat → Int32) × (Nat → Int32) × Int32 × Int32 × Int32 × Int32 × (Nat → Int32) × (Nat → Int32) × (Nat → Int32) × Int32 × Int32 × Int64 × Int64 × Int64 × Int64 × Int64) => (MD (FR (z.2.2.1 2) (z.2.2.1 3)) u.1 u.2.1 u.2.2.1 u.2.2.2.1 u.2.2.2.2.1 u.2.2.2.2.2.1 u.2.2.2.2.2.2.1)) (fun u t => zPost dC dI (va_A (zM k q z) sz) (zM k q (sJ (sJ (sJ (sJ (sJ (sI (sI (sA (sA (sA (sI (sI (sI (sI (sA (sA (sA (sA (sA (sA (sA z 4 u.1) 5 u.2.1) 6 u.2.2.1) 7 u.2.2.2.1) 8 u.2.2.2.2.1) 9 u.2.2.2.2.2.1) 10 u.2.2.2.2.2.2.1) 12 u.2.2.2.2.2.2.2.1) 13 u.2.2.2.2.2.2.2.2.1) 14 u.2.2.2.2.2.2.2.2.2.1) 15 u.2.2.2.2.2.2.2.2.2.2.1) 16 u.2.2.2.2.2.2.2.2.2.2.2.1) 17 u.2.2.2.2.2.2.2.2.2.2.2.2.1) 18 u.2.2.2.2.2.2.2.2.2.2.2.2.2.1) 28 u.2.2.2.2.2.2.2.2.2.2.2.2.2.2.1) 29 u.2.2.2.2.2.2.2.2.2.2.2.2.2.2.2.1) 0 u.2.2.2.2.2.2.2.2.2.2.2.2.2.2.2.2.1) 1 u.2.2.2.2.2.2.2.2.2.2.2.2.2.2.2.2.2.1) 30 u.2.2.2.2.2.2.2.2.2.2.2.2.2.2.2.2.2.2.1) 31 u.2.2.2.2.2.2.2.2.2.2.2.2.2.2.2.2.2.2.2.1) 32 u.2.2.2.2.2.2.2.2.2.2.2.2.2.2.2.2.2.2.2.2)) t) (va_A (zM k q z) sz)) 0 0 (va_A (zM k q z) sz) := by
  refine Met.ofW (cc := cX7_likely) (maxL := 3) (ret := (some .int)) (by decide) rfl ?_
  intro p e s m args below meth c s₁ B hml hv
  obtain ⟨rfl, hsz, hP, hK, hD0⟩ := hv
  have hx := B.exec
  have hb := B.bytes
  have hr := B.returns
  have hts := atoms_spec (ws := wz yX7_likely cX7_likely 3 (some .int)) B.pre
  have htb : ∀ w ∈ zw, w.before _ s = true := fun w h => hts w (List.mem_cons_of_mem _ h)
  have hown : s.vm.findClass RX7 = some m.cls := findClass_of_methodNamed B.named
  have hlocks := B.notSynchronized
  clear hts
  subst hsz
  have hD := hD0.self (sz := s.heap.size)
  generalize hAe : va_A (zM k q z) s.heap.size = A at hD ⊢
  have hA : ∀ q : Nat, s.heap.size ≤ q → A q := fun q h => by rw [← hAe]; exact Or.inr h
  have hDa : ∀ z9 : ZS, va_D A (zM k q z9) := fun z9 => va_D_adr (w := zM k q z) rfl hD
  have hl := lv_entry ([.ref (q 0), .int g, .int d]) (n := 3) (Nat.le_of_ble_eq_true rfl)
  rw [lg_entry_eq]
  generalize (lg_sl ([.ref (q 0), .int g, .int d]) ++ List.replicate (3 - (lg_sl ([.ref (q 0), .int g, .int d])).length) Slot.unset).toArray = ls at hl ⊢
  have hl : lv_has ls 3 [(0, .ref (q 0)), (1, .int g), (2, .int d)] := hl
  refine z_start2 (A := A) (w := (zM k q z)) hP (fun H locs hP hS => ?_)
  clear hD0 hAe
  refine lv_aload_n hx hb dX7_likely_0 rfl (lv_at hl 0 rfl) ?_
  refine lv_iload_n hx hb dX7_likely_1 rfl (lv_at hl 1 rfl) ?_
  refine lv_iload_n hx hb dX7_likely_2 rfl (lv_at hl 2 rfl) ?_
  refine zcA_i (w := (zM k q z)) (va_runV (As := [.int g, .int d]) (rest := []) ⟨hx, hb, hml, hown, htb⟩ (c_X7_likelyOf l dC dI k q z g d _ hI) (cwV 2 htb (gzV wmt5_3 wmt5_5 wmp3_11 wmt1_8 wmt5_6) rfl rfl rfl (by decide +kernel) ⟨Nat.le_of_ble_eq_true rfl, Nat.le_of_ble_eq_true rfl⟩) (zpA_V (ci := 7) (q0 := 0) hK hP (hDa _) rfl rfl) rfl rfl hl.1 rfl (lv_room (Nat.le_of_ble_eq_true rfl)) dX7_likely_3 ⟨Nat.le_of_ble_eq_true rfl, Nat.le_of_ble_eq_true rfl⟩) (hDa _) hS hA (fun r_1 u_2 H locs w_3 hP _ hS => ?_)
  obtain ⟨o4_4, o5_5, o6_6, o7_7, o8_8, o9_9, o10_10, o12_11, o13_12, o14_13, o15_14, o16_15, o17_16, o18_17, op_18, oy_19, oa_20, ob_21, ou_22, oh_23, on_24⟩ := u_2
  have hP : va_P (dC, dI) vwCl (zM k q (sJ (sJ (sJ (sJ (sJ (sI (sI (sA (sA (sA (sI (sI (sI (sI (sA (sA (sA (sA (sA (sA (sA z 4 o4_4) 5 o5_5) 6 o6_6) 7 o7_7) 8 o8_8) 9 o9_9) 10 o10_10) 12 o12_11) 13 o13_12) 14 o14_13) 15 o15_14) 16 o16_15) 17 o17_16) 18 o18_17) 28 op_18) 29 oy_19) 0 oa_20) 1 ob_21) 30 ou_22) 31 oh_23) 32 on_24)) H := hP
  have h_25 := w_3
  replace h_25 : MD (FR ((z.2.2.1 2)) ((z.2.2.1 3))) o4_4 o5_5 o6_6 o7_7 o8_8 o9_9 o10_10 := h_25
  have hI : MInv (sJ (sJ (sJ (sJ (sJ (sI (sI (sA (sA (sA (sI (sI (sI (sI (sA (sA (sA (sA (sA (sA (sA z 4 o4_4) 5 o5_5) 6 o6_6) 7 o7_7) 8 o8_8) 9 o9_9) 10 o10_10) 12 o12_11) 13 o13_12) 14 o14_13) 15 o15_14) 16 o16_15) 17 o17_16) 18 o18_17) 28 op_18) 29 oy_19) 0 oa_20) 1 ob_21) 30 ou_22) 31 oh_23) 32 on_24) := ⟨hI.1, hI.2.1, hI.2.2.1, hI.2.2.2.1, hI.2.2.2.2.1, h_25⟩
  exact W.iret (v := r_1) hx hb hr (fun t ht hW => ⟨⟨r_1, (o4_4, o5_5, o6_6, o7_7, o8_8, o9_9, o10_10, o12_11, o13_12, o14_13, o15_14, o16_15, o17_16, o18_17, op_18, oy_19, oa_20, ob_21, ou_22, oh_23, on_24), rfl, (show (MD (FR (z.2.2.1 2) (z.2.2.1 3)) o4_4 o5_5 o6_6 o7_7 o8_8 o9_9 o10_10) from hI.2.2.2.2.2), ⟨by rw [ht]; exact hP, hDa _⟩⟩, hS.F ht⟩) hS.2.2 dX7_likely_6
set_option maxHeartbeats 4000000 in
set_option maxRecDepth 100000 in
theorem c_X7_ways (l : Launch) (dC : Nat → ClassId) (dI : Nat → Nat → Nat) (k : Nat → ClassId) (q : Nat → Nat) (z : ZS) (g : Int32) (d : Int32) (n : Int32) (sz : Nat) (hI : MInv z) : Met l yX7_ways (wz yX7_ways cX7_ways 5 (some .long)) ({ frames := 7, cells := 0, slots := 0, locals := 160 }) (va_Pc [.ref (q 0), .int g, .int d, .int n] (zPre dC dI k (zTX k) (zM k q z) sz)) (va_Ql (fun (r : Int64) (u : (Nat → Int32) × (Nat → Int32) × (Nat → Int32) × (Nat → Int32) × (Nat → Int32) × (Nat → Int32) × (Nat → Int32) × Int32 × Int32 × Int32 × Int32 × (Nat → Int32) × (Nat → Int32) × (Nat → Int32) × Int32 × Int32 × Int64 × Int64 × Int64 × Int64 × Int64) => (MD (FR (z.2.2.1 2) (z.2.2.1 3)) u.1 u.2.1 u.2.2.1 u.2.2.2.1 u.2.2.2.2.1 u.2.2.2.2.2.1 u.2.2.2.2.2.2.1)) (fun u t => zPost dC dI (va_A (zM k q z) sz) (zM k q (sJ (sJ (sJ (sJ (sJ (sI (sI (sA (sA (sA (sI (sI (sI (sI (sA (sA (sA (sA (sA (sA (sA z 4 u.1) 5 u.2.1) 6 u.2.2.1) 7 u.2.2.2.1) 8 u.2.2.2.2.1) 9 u.2.2.2.2.2.1) 10 u.2.2.2.2.2.2.1) 12 u.2.2.2.2.2.2.2.1) 13 u.2.2.2.2.2.2.2.2.1) 14 u.2.2.2.2.2.2.2.2.2.1) 15 u.2.2.2.2.2.2.2.2.2.2.1) 16 u.2.2.2.2.2.2.2.2.2.2.2.1) 17 u.2.2.2.2.2.2.2.2.2.2.2.2.1) 18 u.2.2.2.2.2.2.2.2.2.2.2.2.2.1) 28 u.2.2.2.2.2.2.2.2.2.2.2.2.2.2.1) 29 u.2.2.2.2.2.2.2.2.2.2.2.2.2.2.2.1) 0 u.2.2.2.2.2.2.2.2.2.2.2.2.2.2.2.2.1) 1 u.2.2.2.2.2.2.2.2.2.2.2.2.2.2.2.2.2.1) 30 u.2.2.2.2.2.2.2.2.2.2.2.2.2.2.2.2.2.2.1) 31 u.2.2.2.2.2.2.2.2.2.2.2.2.2.2.2.2.2.2.2.1) 32 u.2.2.2.2.2.2.2.2.2.2.2.2.2.2.2.2.2.2.2.2)) t) (va_A (zM k q z) sz)) 0 0 (va_A (zM k q z) sz) := by
  refine Met.ofW (cc := cX7_ways) (maxL := 5) (ret := (some .long)) (by decide) rfl ?_
  intro p e s m args below meth c s₁ B hml hv
  obtain ⟨rfl, hsz, hP, hK, hD0⟩ := hv
  have hx := B.exec
  have hb := B.bytes
  have hr := B.returns
  have hts := atoms_spec (ws := wz yX7_ways cX7_ways 5 (some .long)) B.pre
  have htb : ∀ w ∈ zw, w.before _ s = true := fun w h => hts w (List.mem_cons_of_mem _ h)
  have hown : s.vm.findClass RX7 = some m.cls := findClass_of_methodNamed B.named
  have hlocks := B.notSynchronized
  clear hts
  subst hsz
  have hD := hD0.self (sz := s.heap.size)
  generalize hAe : va_A (zM k q z) s.heap.size = A at hD ⊢
  have hA : ∀ q : Nat, s.heap.size ≤ q → A q := fun q h => by rw [← hAe]; exact Or.inr h
  have hDa : ∀ z9 : ZS, va_D A (zM k q z9) := fun z9 => va_D_adr (w := zM k q z) rfl hD
  have hl := lv_entry ([.ref (q 0), .int g, .int d, .int n]) (n := 5) (Nat.le_of_ble_eq_true rfl)
  rw [lg_entry_eq]
  generalize (lg_sl ([.ref (q 0), .int g, .int d, .int n]) ++ List.replicate (5 - (lg_sl ([.ref (q 0), .int g, .int d, .int n])).length) Slot.unset).toArray = ls at hl ⊢
  have hl : lv_has ls 5 [(0, .ref (q 0)), (1, .int g), (2, .int d), (3, .int n)] := hl
  refine z_start2 (A := A) (w := (zM k q z)) hP (fun H locs hP hS => ?_)
  clear hD0 hAe
  refine lv_aload_n hx hb dX7_ways_0 rfl (lv_at hl 0 rfl) ?_
  refine lv_iload_n hx hb dX7_ways_1 rfl (lv_at hl 1 rfl) ?_
  refine lv_iload_n hx hb dX7_ways_2 rfl (lv_at hl 2 rfl) ?_
  refine lv_iload_n hx hb dX7_ways_3 rfl (lv_at hl 3 rfl) ?_
  refine zcA_i (w := (zM k q z)) (va_runV (As := [.int g, .int d, .int n]) (rest := []) ⟨hx, hb, hml, hown, htb⟩ (c_X7_refusesWays l dC dI k q z g d n _ hI) (cwV 3 htb (gzV wmt4_225 wmt4_227 wmp3_9 wmt1_8 wmt4_228) rfl rfl rfl (by decide +kernel) ⟨Nat.le_of_ble_eq_true rfl, Nat.le_of_ble_eq_true rfl⟩) (zpA_V (ci := 7) (q0 := 0) hK hP (hDa _) rfl rfl) rfl rfl hl.1 rfl (lv_room (Nat.le_of_ble_eq_true rfl)) dX7_ways_4 ⟨Nat.le_of_ble_eq_true rfl, Nat.le_of_ble_eq_true rfl⟩) (hDa _) hS hA (fun r_1 u_2 H locs w_3 hP _ hS => ?_)
  obtain ⟨o4_4, o5_5, o6_6, o7_7, o8_8, o9_9, o10_10, o12_11, o13_12, o14_13, o15_14, o16_15, o17_16, o18_17, op_18, oy_19, oa_20, ob_21, ou_22, oh_23, on_24⟩ := u_2
  have hP : va_P (dC, dI) vwCl (zM k q (sJ (sJ (sJ (sJ (sJ (sI (sI (sA (sA (sA (sI (sI (sI (sI (sA (sA (sA (sA (sA (sA (sA z 4 o4_4) 5 o5_5) 6 o6_6) 7 o7_7) 8 o8_8) 9 o9_9) 10 o10_10) 12 o12_11) 13 o13_12) 14 o14_13) 15 o15_14) 16 o16_15) 17 o17_16) 18 o18_17) 28 op_18) 29 oy_19) 0 oa_20) 1 ob_21) 30 ou_22) 31 oh_23) 32 on_24)) H := hP
  obtain ⟨h_25, h_26, h_27⟩ := w_3
  replace h_25 : MD (FR ((z.2.2.1 2)) ((z.2.2.1 3))) o4_4 o5_5 o6_6 o7_7 o8_8 o9_9 o10_10 := h_25
  replace h_26 : r_1.toInt = 0 → ((0 ≤ g.toInt ∧ g.toInt < 4) ∧ (0 ≤ d.toInt ∧ d.toInt < 4)) ∧ (0 ≤ oy_19.toInt ∧ oy_19.toInt ≤ op_18.toInt ∧ op_18.toInt ≤ 12) ∧ n.toInt ≤ op_18.toInt ∧ 0 ≤ n.toInt ∧ (1 ≤ ou_22.toInt ∧ ou_22.toInt ≤ 24) := h_26
  replace h_27 : ¬ r_1.toInt = 0 → r_1.toInt < 0 := h_27
  have hI : MInv (sJ (sJ (sJ (sJ (sJ (sI (sI (sA (sA (sA (sI (sI (sI (sI (sA (sA (sA (sA (sA (sA (sA z 4 o4_4) 5 o5_5) 6 o6_6) 7 o7_7) 8 o8_8) 9 o9_9) 10 o10_10) 12 o12_11) 13 o13_12) 14 o14_13) 15 o15_14) 16 o16_15) 17 o17_16) 18 o18_17) 28 op_18) 29 oy_19) 0 oa_20) 1 ob_21) 30 ou_22) 31 oh_23) 32 on_24) := ⟨hI.1, hI.2.1, hI.2.2.1, hI.2.2.2.1, hI.2.2.2.2.1, h_25⟩
  have hrw := h_26
  have hrn := h_27
  refine lv_istore (lv' := [(4, .int r_1), (0, .ref (q 0)), (1, .int g), (2, .int d), (3, .int n)]) hx hb dX7_ways_7 hl (by decide) rfl (fun ls hl => ?_)
  refine lv_iload hx hb dX7_ways_9 (lv_at hl 0 rfl) ?_
  refine lv_if_eq (tgt := 22) hx hb dX7_ways_11 (by decide) (fun c_29 => ?_) (fun c_29 => ?_)
  · skip
    have hc_29 := zb_eq rfl (show (0 : Int32).toInt = 0 by decide) c_29
    obtain ⟨hr1, hr2, hr3, hr4, hr5⟩ := hrw (by omega)
    refine lv_aload_n hx hb dX7_ways_22 rfl (lv_at hl 1 rfl) ?_
    refine lv_aload_n hx hb dX7_ways_23 rfl (lv_at hl 1 rfl) ?_
    refine va_get (D := (dC, dI)) (ci := 7) (v := .int op_18) (C := RX7) (T := TX7) (N := 42) hx hb htb inw7 hown hK.1 hP 0 rfl rfl 28 (by decide) (htb _ wmt3_195) (fun _ h9 => h9) rfl dX7_ways_24 ?_
    refine lv_iload_n hx hb dX7_ways_27 rfl (lv_at hl 4 rfl) ?_
    refine lv_aload_n hx hb dX7_ways_28 rfl (lv_at hl 1 rfl) ?_
    refine va_get (D := (dC, dI)) (ci := 7) (v := .int oy_19) (C := RX7) (T := TX7) (N := 42) hx hb htb inw7 hown hK.1 hP 0 rfl rfl 29 (by decide) (htb _ wmt3_196) (fun _ h9 => h9) rfl dX7_ways_29 ?_
    refine zcA_l (w := (zM k q (sJ (sJ (sJ (sJ (sJ (sI (sI (sA (sA (sA (sI (sI (sI (sI (sA (sA (sA (sA (sA (sA (sA z 4 o4_4) 5 o5_5) 6 o6_6) 7 o7_7) 8 o8_8) 9 o9_9) 10 o10_10) 12 o12_11) 13 o13_12) 14 o14_13) 15 o15_14) 16 o16_15) 17 o17_16) 18 o18_17) 28 op_18) 29 oy_19) 0 oa_20) 1 ob_21) 30 ou_22) 31 oh_23) 32 on_24))) (va_runV (As := [.int op_18, .int n, .int oy_19]) (rest := []) ⟨hx, hb, hml, hown, htb⟩ (c_X7_waysOf l dC dI k q (sJ (sJ (sJ (sJ (sJ (sI (sI (sA (sA (sA (sI (sI (sI (sI (sA (sA (sA (sA (sA (sA (sA z 4 o4_4) 5 o5_5) 6 o6_6) 7 o7_7) 8 o8_8) 9 o9_9) 10 o10_10) 12 o12_11) 13 o13_12) 14 o14_13) 15 o15_14) 16 o16_15) 17 o17_16) 18 o18_17) 28 op_18) 29 oy_19) 0 oa_20) 1 ob_21) 30 ou_22) 31 oh_23) 32 on_24) op_18 n oy_19 _ (show 0 ≤ n.toInt ∧ n.toInt ≤ op_18.toInt ∧ op_18.toInt ≤ 12 by omega) (show 0 ≤ oy_19.toInt ∧ oy_19.toInt ≤ 1000 by omega)) (cwV 3 htb (gzV wmt4_229 wmt4_231 wmp3_10 wmt1_8 wmt4_232) rfl rfl rfl (by decide +kernel) ⟨Nat.le_of_ble_eq_true rfl, Nat.le_of_ble_eq_true rfl⟩) (zpA_V (ci := 7) (q0 := 0) hK hP (hDa _) rfl rfl) rfl rfl hl.1 rfl (lv_room (Nat.le_of_ble_eq_true rfl)) dX7_ways_32 ⟨Nat.le_of_ble_eq_true rfl, Nat.le_of_ble_eq_true rfl⟩) (hDa _) hS hA (fun r_30 u_31 H locs w_32 hP _ hS => ?_)
    exact W.lret (v := r_30) hx hb hr (fun t ht hW => ⟨⟨r_30, (o4_4, o5_5, o6_6, o7_7, o8_8, o9_9, o10_10, o12_11, o13_12, o14_13, o15_14, o16_15, o17_16, o18_17, op_18, oy_19, oa_20, ob_21, ou_22, oh_23, on_24), rfl, (show (MD (FR (z.2.2.1 2) (z.2.2.1 3)) o4_4 o5_5 o6_6 o7_7 o8_8 o9_9 o10_10) from hI.2.2.2.2.2), ⟨by rw [ht]; exact hP, hDa _⟩⟩, hS.F ht⟩) hS.2.2 dX7_ways_35
  · skip
    have hc_29 := zb_ne rfl (show (0 : Int32).toInt = 0 by decide) c_29
    refine lv_iload hx hb dX7_ways_14 (lv_at hl 0 rfl) ?_
    refine zc0_l (w := (zM k q (sJ (sJ (sJ (sJ (sJ (sI (sI (sA (sA (sA (sI (sI (sI (sI (sA (sA (sA (sA (sA (sA (sA z 4 o4_4) 5 o5_5) 6 o6_6) 7 o7_7) 8 o8_8) 9 o9_9) 10 o10_10) 12 o12_11) 13 o13_12) 14 o14_13) 15 o15_14) 16 o16_15) 17 o17_16) 18 o18_17) 28 op_18) 29 oy_19) 0 oa_20) 1 ob_21) 30 ou_22) 31 oh_23) 32 on_24))) (va_runS (As := [.int r_1]) (rest := []) ⟨hx, hb, hml, hown, htb⟩ (c_X7_told l dC dI k r_1 _ ) (va_cwS 1 htb (gzS wmt4_116 wmt4_117 wmt1_8 wmt4_118) rfl rfl rfl (by decide +kernel) ⟨Nat.le_of_ble_eq_true rfl, Nat.le_of_ble_eq_true rfl⟩) (zp0_S hK) rfl rfl hl.1 rfl (lv_room (Nat.le_of_ble_eq_true rfl)) dX7_ways_16 ⟨Nat.le_of_ble_eq_true rfl, Nat.le_of_ble_eq_true rfl⟩) hP hS hA (fun r_33 u_34 H locs w_35 hP hS => ?_)
    have h_36 := w_35
    replace h_36 : r_33.toInt = tl r_1 := h_36
    refine lv_goto (tgt := 35) hx hb dX7_ways_19 (by decide) ?_
    exact W.lret (v := r_33) hx hb hr (fun t ht hW => ⟨⟨r_33, (o4_4, o5_5, o6_6, o7_7, o8_8, o9_9, o10_10, o12_11, o13_12, o14_13, o15_14, o16_15, o17_16, o18_17, op_18, oy_19, oa_20, ob_21, ou_22, oh_23, on_24), rfl, (show (MD (FR (z.2.2.1 2) (z.2.2.1 3)) o4_4 o5_5 o6_6 o7_7 o8_8 o9_9 o10_10) from hI.2.2.2.2.2), ⟨by rw [ht]; exact hP, hDa _⟩⟩, hS.F ht⟩) hS.2.2 dX7_ways_35
set_option maxHeartbeats 4000000 in
set_option maxRecDepth 100000 in
theorem c_X7_span (l : Launch) (dC : Nat → ClassId) (dI : Nat → Nat → Nat) (k : Nat → ClassId) (q : Nat → Nat) (z : ZS) (g : Int32) (d : Int32) (w : Int32) (n : Int32) (sz : Nat) (hI : MInv z) : Met l yX7_span (wz yX7_span cX7_span 11 (some .int)) ({ frames := 7, cells := 0, slots := 0, locals := 160 }) (va_Pc [.ref (q 0), .int g, .int d, .int w, .int n] (zPre dC dI k (zTX k) (zM k q z) sz)) (va_Qi (fun (r : Int32) (u : (Nat → Int32) × (Nat → Int32) × (Nat → Int32) × (Nat → Int32) × (Nat → Int32) × (Nat → Int32) × (Nat → Int32) × Int32 × Int32 × Int32 × Int32 × (Nat → Int32) × (Nat → Int32) × (Nat → Int32) × Int32 × Int32 × Int64 × Int64 × Int64 × Int64 × Int64) => (MD (FR (z.2.2.1 2) (z.2.2.1 3)) u.1 u.2.1 u.2.2.1 u.2.2.2.1 u.2.2.2.2.1 u.2.2.2.2.2.1 u.2.2.2.2.2.2.1)) (fun u t => zPost dC dI (va_A (zM k q z) sz) (zM k q (sJ (sJ (sJ (sJ (sJ (sI (sI (sA (sA (sA (sI (sI (sI (sI (sA (sA (sA (sA (sA (sA (sA z 4 u.1) 5 u.2.1) 6 u.2.2.1) 7 u.2.2.2.1) 8 u.2.2.2.2.1) 9 u.2.2.2.2.2.1) 10 u.2.2.2.2.2.2.1) 12 u.2.2.2.2.2.2.2.1) 13 u.2.2.2.2.2.2.2.2.1) 14 u.2.2.2.2.2.2.2.2.2.1) 15 u.2.2.2.2.2.2.2.2.2.2.1) 16 u.2.2.2.2.2.2.2.2.2.2.2.1) 17 u.2.2.2.2.2.2.2.2.2.2.2.2.1) 18 u.2.2.2.2.2.2.2.2.2.2.2.2.2.1) 28 u.2.2.2.2.2.2.2.2.2.2.2.2.2.2.1) 29 u.2.2.2.2.2.2.2.2.2.2.2.2.2.2.2.1) 0 u.2.2.2.2.2.2.2.2.2.2.2.2.2.2.2.2.1) 1 u.2.2.2.2.2.2.2.2.2.2.2.2.2.2.2.2.2.1) 30 u.2.2.2.2.2.2.2.2.2.2.2.2.2.2.2.2.2.2.1) 31 u.2.2.2.2.2.2.2.2.2.2.2.2.2.2.2.2.2.2.2.1) 32 u.2.2.2.2.2.2.2.2.2.2.2.2.2.2.2.2.2.2.2.2)) t) (va_A (zM k q z) sz)) 0 0 (va_A (zM k q z) sz) := by
  refine Met.ofW (cc := cX7_span) (maxL := 11) (ret := (some .int)) (by decide) rfl ?_
  intro p e s m args below meth c s₁ B hml hv
  obtain ⟨rfl, hsz, hP, hK, hD0⟩ := hv
  have hx := B.exec
  have hb := B.bytes
  have hr := B.returns
  have hts := atoms_spec (ws := wz yX7_span cX7_span 11 (some .int)) B.pre
  have htb : ∀ w ∈ zw, w.before _ s = true := fun w h => hts w (List.mem_cons_of_mem _ h)
  have hown : s.vm.findClass RX7 = some m.cls := findClass_of_methodNamed B.named
  have hlocks := B.notSynchronized
  clear hts
  subst hsz
  have hD := hD0.self (sz := s.heap.size)
  generalize hAe : va_A (zM k q z) s.heap.size = A at hD ⊢
  have hA : ∀ q : Nat, s.heap.size ≤ q → A q := fun q h => by rw [← hAe]; exact Or.inr h
  have hDa : ∀ z9 : ZS, va_D A (zM k q z9) := fun z9 => va_D_adr (w := zM k q z) rfl hD
  have hl := lv_entry ([.ref (q 0), .int g, .int d, .int w, .int n]) (n := 11) (Nat.le_of_ble_eq_true rfl)
  rw [lg_entry_eq]
  generalize (lg_sl ([.ref (q 0), .int g, .int d, .int w, .int n]) ++ List.replicate (11 - (lg_sl ([.ref (q 0), .int g, .int d, .int w, .int n])).length) Slot.unset).toArray = ls at hl ⊢
  have hl : lv_has ls 11 [(0, .ref (q 0)), (1, .int g), (2, .int d), (3, .int w), (4, .int n)] := hl
  refine z_start2 (A := A) (w := (zM k q z)) hP (fun H locs hP hS => ?_)
  clear hD0 hAe
  refine lv_iload_n hx hb dX7_span_0 rfl (lv_at hl 1 rfl) ?_
  refine lv_iload_n hx hb dX7_span_1 rfl (lv_at hl 2 rfl) ?_
  refine zc0_i (w := (zM k q z)) (va_runS (As := [.int g, .int d]) (rest := []) ⟨hx, hb, hml, hown, htb⟩ (c_X7_isPoll l dC dI k g d _ ) (va_cwS 2 htb (gzS wmt4_202 wmt4_203 wmt1_8 wmt4_204) rfl rfl rfl (by decide +kernel) ⟨Nat.le_of_ble_eq_true rfl, Nat.le_of_ble_eq_true rfl⟩) (zp0_S hK) rfl rfl hl.1 rfl (lv_room (Nat.le_of_ble_eq_true rfl)) dX7_span_2 ⟨Nat.le_of_ble_eq_true rfl, Nat.le_of_ble_eq_true rfl⟩) hP hS hA (fun r_1 u_2 H locs w_3 hP hS => ?_)
  rcases w_3 with ⟨e_5, h_4⟩ | ⟨e_7, h_6⟩
  · skip
    replace e_5 : r_1 = 1 := e_5
    subst e_5
    replace h_4 : (0 ≤ g.toInt ∧ g.toInt < 4) ∧ (0 ≤ d.toInt ∧ d.toInt < 4) := h_4
    refine lv_if_eq (tgt := 28) hx hb dX7_span_5 (by decide) (fun c_8 => ?_) (fun c_8 => ?_)
    · skip
      exact absurd c_8 (by decide)
    · skip
      refine lv_iload_n hx hb dX7_span_8 rfl (lv_at hl 3 rfl) ?_
      refine lv_iconst (v := 1) hx hb dX7_span_9 (by decide) ?_
      refine lv_bipush (v := 100) hx hb dX7_span_10 (by decide) ?_
      refine zc0_i (w := (zM k q z)) (va_runS (As := [.int w, .int 1, .int 100]) (rest := []) ⟨hx, hb, hml, hown, htb⟩ (c_X7_in l dC dI k w 1 100 _ ) (va_cwS 3 htb (gzS wmt4_62 wmt4_63 wmt1_8 wmt4_64) rfl rfl rfl (by decide +kernel) ⟨Nat.le_of_ble_eq_true rfl, Nat.le_of_ble_eq_true rfl⟩) (zp0_S hK) rfl rfl hl.1 rfl (lv_room (Nat.le_of_ble_eq_true rfl)) dX7_span_12 ⟨Nat.le_of_ble_eq_true rfl, Nat.le_of_ble_eq_true rfl⟩) hP hS hA (fun r_9 u_10 H locs w_11 hP hS => ?_)
      rcases w_11 with ⟨e_13, h_12⟩ | ⟨e_15, h_14⟩
      · skip
        replace e_13 : r_9 = 1 := e_13
        subst e_13
        replace h_12 : (1 : Int32).toInt ≤ w.toInt ∧ w.toInt ≤ (100 : Int32).toInt := h_12
        rw [show (1 : Int32).toInt = 1 by decide, show (100 : Int32).toInt = 100 by decide] at h_12
        refine lv_if_eq (tgt := 28) hx hb dX7_span_15 (by decide) (fun c_16 => ?_) (fun c_16 => ?_)
        · skip
          exact absurd c_16 (by decide)
        · skip
          refine lv_iload hx hb dX7_span_18 (lv_at hl 4 rfl) ?_
          refine lv_iconst (v := 0) hx hb dX7_span_20 (by decide) ?_
          refine lv_iconst (v := 1) hx hb dX7_span_21 (by decide) ?_
          refine zc0_i (w := (zM k q z)) (va_runS (As := [.int n, .int 0, .int 1]) (rest := []) ⟨hx, hb, hml, hown, htb⟩ (c_X7_in l dC dI k n 0 1 _ ) (va_cwS 3 htb (gzS wmt4_62 wmt4_63 wmt1_8 wmt4_64) rfl rfl rfl (by decide +kernel) ⟨Nat.le_of_ble_eq_true rfl, Nat.le_of_ble_eq_true rfl⟩) (zp0_S hK) rfl rfl hl.1 rfl (lv_room (Nat.le_of_ble_eq_true rfl)) dX7_span_22 ⟨Nat.le_of_ble_eq_true rfl, Nat.le_of_ble_eq_true rfl⟩) hP hS hA (fun r_17 u_18 H locs w_19 hP hS => ?_)
          rcases w_19 with ⟨e_21, h_20⟩ | ⟨e_23, h_22⟩
          · skip
            replace e_21 : r_17 = 1 := e_21
            subst e_21
            replace h_20 : (0 : Int32).toInt ≤ n.toInt ∧ n.toInt ≤ (1 : Int32).toInt := h_20
            rw [show (0 : Int32).toInt = 0 by decide, show (1 : Int32).toInt = 1 by decide] at h_20
            refine lv_if_ne (tgt := 31) hx hb dX7_span_25 (by decide) (fun c_24 => ?_) (fun c_24 => ?_)
            · skip
              refine lv_aload_n hx hb dX7_span_31 rfl (lv_at hl 0 rfl) ?_
              refine lv_iload_n hx hb dX7_span_32 rfl (lv_at hl 1 rfl) ?_
              refine lv_iload_n hx hb dX7_span_33 rfl (lv_at hl 2 rfl) ?_
              refine lv_iconst (v := 0) hx hb dX7_span_34 (by decide) ?_
              refine zcA_i (w := (zM k q z)) (va_runV (As := [.int g, .int d, .int 0]) (rest := []) ⟨hx, hb, hml, hown, htb⟩ (c_X7_refusesWays l dC dI k q z g d 0 _ hI) (cwV 3 htb (gzV wmt4_225 wmt4_227 wmp3_9 wmt1_8 wmt4_228) rfl rfl rfl (by decide +kernel) ⟨Nat.le_of_ble_eq_true rfl, Nat.le_of_ble_eq_true rfl⟩) (zpA_V (ci := 7) (q0 := 0) hK hP (hDa _) rfl rfl) rfl rfl hl.1 rfl (lv_room (Nat.le_of_ble_eq_true rfl)) dX7_span_35 ⟨Nat.le_of_ble_eq_true rfl, Nat.le_of_ble_eq_true rfl⟩) (hDa _) hS hA (fun r_25 u_26 H locs w_27 hP _ hS => ?_)
              obtain ⟨o4_28, o5_29, o6_30, o7_31, o8_32, o9_33, o10_34, o12_35, o13_36, o14_37, o15_38, o16_39, o17_40, o18_41, op_42, oy_43, oa_44, ob_45, ou_46, oh_47, on_48⟩ := u_26
              have hP : va_P (dC, dI) vwCl (zM k q (sJ (sJ (sJ (sJ (sJ (sI (sI (sA (sA (sA (sI (sI (sI (sI (sA (sA (sA (sA (sA (sA (sA z 4 o4_28) 5 o5_29) 6 o6_30) 7 o7_31) 8 o8_32) 9 o9_33) 10 o10_34) 12 o12_35) 13 o13_36) 14 o14_37) 15 o15_38) 16 o16_39) 17 o17_40) 18 o18_41) 28 op_42) 29 oy_43) 0 oa_44) 1 ob_45) 30 ou_46) 31 oh_47) 32 on_48)) H := hP
              obtain ⟨h_49, h_50, h_51⟩ := w_27
              replace h_49 : MD (FR ((z.2.2.1 2)) ((z.2.2.1 3))) o4_28 o5_29 o6_30 o7_31 o8_32 o9_33 o10_34 := h_49
              replace h_50 : r_25.toInt = 0 → ((0 ≤ g.toInt ∧ g.toInt < 4) ∧ (0 ≤ d.toInt ∧ d.toInt < 4)) ∧ (0 ≤ oy_43.toInt ∧ oy_43.toInt ≤ op_42.toInt ∧ op_42.toInt ≤ 12) ∧ (0 : Int32).toInt ≤ op_42.toInt ∧ 0 ≤ (0 : Int32).toInt ∧ (1 ≤ ou_46.toInt ∧ ou_46.toInt ≤ 24) := h_50
              rw [show (0 : Int32).toInt = 0 by decide] at h_50
              replace h_51 : ¬ r_25.toInt = 0 → r_25.toInt < 0 := h_51
              have hI : MInv (sJ (sJ (sJ (sJ (sJ (sI (sI (sA (sA (sA (sI (sI (sI (sI (sA (sA (sA (sA (sA (sA (sA z 4 o4_28) 5 o5_29) 6 o6_30) 7 o7_31) 8 o8_32) 9 o9_33) 10 o10_34) 12 o12_35) 13 o13_36) 14 o14_37) 15 o15_38) 16 o16_39) 17 o17_40) 18 o18_41) 28 op_42) 29 oy_43) 0 oa_44) 1 ob_45) 30 ou_46) 31 oh_47) 32 on_48) := ⟨hI.1, hI.2.1, hI.2.2.1, hI.2.2.2.1, hI.2.2.2.2.1, h_49⟩
              have hrw := h_50
              have hrn := h_51
              refine lv_istore (lv' := [(5, .int r_25), (0, .ref (q 0)), (1, .int g), (2, .int d), (3, .int w), (4, .int n)]) hx hb dX7_span_38 hl (by decide) rfl (fun ls hl => ?_)
              refine lv_iload hx hb dX7_span_40 (lv_at hl 0 rfl) ?_
              refine lv_if_eq (tgt := 48) hx hb dX7_span_42 (by decide) (fun c_53 => ?_) (fun c_53 => ?_)
              · skip
                have hc_53 := zb_eq rfl (show (0 : Int32).toInt = 0 by decide) c_53
                obtain ⟨hr1, hr2, hr3, hr4, hr5⟩ := hrw (by omega)
                refine lv_aload_n hx hb dX7_span_48 rfl (lv_at hl 1 rfl) ?_
                refine lv_aload_n hx hb dX7_span_49 rfl (lv_at hl 1 rfl) ?_
                refine va_get (D := (dC, dI)) (ci := 7) (v := .int op_42) (C := RX7) (T := TX7) (N := 42) hx hb htb inw7 hown hK.1 hP 0 rfl rfl 28 (by decide) (htb _ wmt3_195) (fun _ h9 => h9) rfl dX7_span_50 ?_
                refine lv_aload_n hx hb dX7_span_53 rfl (lv_at hl 1 rfl) ?_
                refine zcA_i (w := (zM k q (sJ (sJ (sJ (sJ (sJ (sI (sI (sA (sA (sA (sI (sI (sI (sI (sA (sA (sA (sA (sA (sA (sA z 4 o4_28) 5 o5_29) 6 o6_30) 7 o7_31) 8 o8_32) 9 o9_33) 10 o10_34) 12 o12_35) 13 o13_36) 14 o14_37) 15 o15_38) 16 o16_39) 17 o17_40) 18 o18_41) 28 op_42) 29 oy_43) 0 oa_44) 1 ob_45) 30 ou_46) 31 oh_47) 32 on_48))) (va_runV (As := []) (rest := [.int op_42, .ref (q 0)]) ⟨hx, hb, hml, hown, htb⟩ (c_X7_likelyNow l dC dI k q (sJ (sJ (sJ (sJ (sJ (sI (sI (sA (sA (sA (sI (sI (sI (sI (sA (sA (sA (sA (sA (sA (sA z 4 o4_28) 5 o5_29) 6 o6_30) 7 o7_31) 8 o8_32) 9 o9_33) 10 o10_34) 12 o12_35) 13 o13_36) 14 o14_37) 15 o15_38) 16 o16_39) 17 o17_40) 18 o18_41) 28 op_42) 29 oy_43) 0 oa_44) 1 ob_45) 30 ou_46) 31 oh_47) 32 on_48) _ (show 0 ≤ (op_42).toInt ∧ (op_42).toInt ≤ 12 by omega) (show 0 ≤ (oy_43).toInt ∧ (oy_43).toInt ≤ 1000 by omega)) (cwV 0 htb (gzV wmt5_7 wmt5_9 wmp3_12 wmt1_8 wmt5_10) rfl rfl rfl (by decide +kernel) ⟨Nat.le_of_ble_eq_true rfl, Nat.le_of_ble_eq_true rfl⟩) (zpA_V (ci := 7) (q0 := 0) hK hP (hDa _) rfl rfl) rfl rfl hl.1 rfl (lv_room (Nat.le_of_ble_eq_true rfl)) dX7_span_54 ⟨Nat.le_of_ble_eq_true rfl, Nat.le_of_ble_eq_true rfl⟩) (hDa _) hS hA (fun r_54 u_55 H locs w_56 hP _ hS => ?_)
                have h_57 := w_56
                replace h_57 : 0 ≤ r_54.toInt ∧ r_54.toInt ≤ 12 ∧ (r_54.toInt ≤ (op_42).toInt ∨ r_54.toInt = 0) := h_57
                have hln := h_57
                refine lv_aload_n hx hb dX7_span_57 rfl (lv_at hl 1 rfl) ?_
                refine va_get (D := (dC, dI)) (ci := 7) (v := .int oy_43) (C := RX7) (T := TX7) (N := 42) hx hb htb inw7 hown hK.1 hP 0 rfl rfl 29 (by decide) (htb _ wmt3_196) (fun _ h9 => h9) rfl dX7_span_58 ?_
                refine zcA_l (w := (zM k q (sJ (sJ (sJ (sJ (sJ (sI (sI (sA (sA (sA (sI (sI (sI (sI (sA (sA (sA (sA (sA (sA (sA z 4 o4_28) 5 o5_29) 6 o6_30) 7 o7_31) 8 o8_32) 9 o9_33) 10 o10_34) 12 o12_35) 13 o13_36) 14 o14_37) 15 o15_38) 16 o16_39) 17 o17_40) 18 o18_41) 28 op_42) 29 oy_43) 0 oa_44) 1 ob_45) 30 ou_46) 31 oh_47) 32 on_48))) (va_runV (As := [.int op_42, .int r_54, .int oy_43]) (rest := []) ⟨hx, hb, hml, hown, htb⟩ (c_X7_waysOf l dC dI k q (sJ (sJ (sJ (sJ (sJ (sI (sI (sA (sA (sA (sI (sI (sI (sI (sA (sA (sA (sA (sA (sA (sA z 4 o4_28) 5 o5_29) 6 o6_30) 7 o7_31) 8 o8_32) 9 o9_33) 10 o10_34) 12 o12_35) 13 o13_36) 14 o14_37) 15 o15_38) 16 o16_39) 17 o17_40) 18 o18_41) 28 op_42) 29 oy_43) 0 oa_44) 1 ob_45) 30 ou_46) 31 oh_47) 32 on_48) op_42 r_54 oy_43 _ (show 0 ≤ r_54.toInt ∧ r_54.toInt ≤ op_42.toInt ∧ op_42.toInt ≤ 12 by omega) (show 0 ≤ oy_43.toInt ∧ oy_43.toInt ≤ 1000 by omega)) (cwV 3 htb (gzV wmt4_229 wmt4_231 wmp3_10 wmt1_8 wmt4_232) rfl rfl rfl (by decide +kernel) ⟨Nat.le_of_ble_eq_true rfl, Nat.le_of_ble_eq_true rfl⟩) (zpA_V (ci := 7) (q0 := 0) hK hP (hDa _) rfl rfl) rfl rfl hl.1 rfl (lv_room (Nat.le_of_ble_eq_true rfl)) dX7_span_61 ⟨Nat.le_of_ble_eq_true rfl, Nat.le_of_ble_eq_true rfl⟩) (hDa _) hS hA (fun r_59 u_60 H locs w_61 hP _ hS => ?_)
                refine lv_lstore (lv' := [(6, .long r_59), (5, .int r_25), (0, .ref (q 0)), (1, .int g), (2, .int d), (3, .int w), (4, .int n)]) hx hb dX7_span_64 hl (by decide) rfl (fun ls hl => ?_)
                refine lv_iconst (v := (-1)) hx hb dX7_span_66 (by decide) ?_
                refine lv_istore (lv' := [(8, .int (-1)), (6, .long r_59), (5, .int r_25), (0, .ref (q 0)), (1, .int g), (2, .int d), (3, .int w), (4, .int n)]) hx hb dX7_span_67 hl (by decide) rfl (fun ls hl => ?_)
                refine lv_iconst (v := 0) hx hb dX7_span_69 (by decide) ?_
                refine lv_istore (lv' := [(9, .int 0), (8, .int (-1)), (6, .long r_59), (5, .int r_25), (0, .ref (q 0)), (1, .int g), (2, .int d), (3, .int w), (4, .int n)]) hx hb dX7_span_70 hl (by decide) rfl (fun ls hl => ?_)
                obtain ⟨bs, ebs⟩ : ∃ x : Int32, (-1) = x := ⟨_, rfl⟩
                obtain ⟨i, ei⟩ : ∃ x : Int32, 0 = x := ⟨_, rfl⟩
                have hv72 : (0 ≤ i.toInt ∧ i.toInt ≤ 13) := by subst ebs ei; exact (by decide)
                replace hl : lv_has ls 11 [(9, .int i), (8, .int bs), (6, .long r_59), (5, .int r_25), (0, .ref (q 0)), (1, .int g), (2, .int d), (3, .int w), (4, .int n)] := by subst ebs ei; exact hl
                clear ebs ei
                obtain ⟨mm72, hm72⟩ : ∃ mm : Nat, mm = (13 - i.toInt).toNat := ⟨_, rfl⟩
                refine z_cut2 hP hS hl ?_
                clear hl hP
                intro H locs ls hP hS hl
                induction mm72 using Nat.strongRecOn generalizing bs i H locs ls with
                | _ mm72 ih72 =>
                  have hi := hv72
                  refine lv_iload hx hb dX7_span_72 (lv_at hl 0 rfl) ?_
                  refine lv_aload_n hx hb dX7_span_74 rfl (lv_at hl 4 rfl) ?_
                  refine va_get (D := (dC, dI)) (ci := 7) (v := .int op_42) (C := RX7) (T := TX7) (N := 42) hx hb htb inw7 hown hK.1 hP 0 rfl rfl 28 (by decide) (htb _ wmt3_195) (fun _ h9 => h9) rfl dX7_span_75 ?_
                  refine lv_icmp_gt (tgt := 147) hx hb dX7_span_78 (by decide) (fun c_62 => ?_) (fun c_62 => ?_)
                  · skip
                    have hc_62 := zb_lt rfl rfl c_62
                    refine lv_iload hx hb dX7_span_147 (lv_at hl 1 rfl) ?_
                    exact W.iret (v := bs) hx hb hr (fun t ht hW => ⟨⟨bs, (o4_28, o5_29, o6_30, o7_31, o8_32, o9_33, o10_34, o12_35, o13_36, o14_37, o15_38, o16_39, o17_40, o18_41, op_42, oy_43, oa_44, ob_45, ou_46, oh_47, on_48), rfl, (show (MD (FR (z.2.2.1 2) (z.2.2.1 3)) o4_28 o5_29 o6_30 o7_31 o8_32 o9_33 o10_34) from hI.2.2.2.2.2), ⟨by rw [ht]; exact hP, hDa _⟩⟩, hS.F ht⟩) hS.2.2 dX7_span_149
                  · skip
                    have hc_62 := zb_nlt rfl rfl c_62
                    refine lv_ldc2 (v := 100) hx hb hown (htb _ wmt5_15) dX7_span_81 ?_
                    refine lv_aload_n hx hb dX7_span_84 rfl (lv_at hl 4 rfl) ?_
                    refine lv_aload_n hx hb dX7_span_85 rfl (lv_at hl 4 rfl) ?_
                    refine va_get (D := (dC, dI)) (ci := 7) (v := .int op_42) (C := RX7) (T := TX7) (N := 42) hx hb htb inw7 hown hK.1 hP 0 rfl rfl 28 (by decide) (htb _ wmt3_195) (fun _ h9 => h9) rfl dX7_span_86 ?_
                    refine lv_iload hx hb dX7_span_89 (lv_at hl 0 rfl) ?_
                    refine lv_aload_n hx hb dX7_span_91 rfl (lv_at hl 4 rfl) ?_
                    refine va_get (D := (dC, dI)) (ci := 7) (v := .int oy_43) (C := RX7) (T := TX7) (N := 42) hx hb htb inw7 hown hK.1 hP 0 rfl rfl 29 (by decide) (htb _ wmt3_196) (fun _ h9 => h9) rfl dX7_span_92 ?_
                    refine zcA_l (w := (zM k q (sJ (sJ (sJ (sJ (sJ (sI (sI (sA (sA (sA (sI (sI (sI (sI (sA (sA (sA (sA (sA (sA (sA z 4 o4_28) 5 o5_29) 6 o6_30) 7 o7_31) 8 o8_32) 9 o9_33) 10 o10_34) 12 o12_35) 13 o13_36) 14 o14_37) 15 o15_38) 16 o16_39) 17 o17_40) 18 o18_41) 28 op_42) 29 oy_43) 0 oa_44) 1 ob_45) 30 ou_46) 31 oh_47) 32 on_48))) (va_runV (As := [.int op_42, .int i, .int oy_43]) (rest := [.long 100]) ⟨hx, hb, hml, hown, htb⟩ (c_X7_waysOf l dC dI k q (sJ (sJ (sJ (sJ (sJ (sI (sI (sA (sA (sA (sI (sI (sI (sI (sA (sA (sA (sA (sA (sA (sA z 4 o4_28) 5 o5_29) 6 o6_30) 7 o7_31) 8 o8_32) 9 o9_33) 10 o10_34) 12 o12_35) 13 o13_36) 14 o14_37) 15 o15_38) 16 o16_39) 17 o17_40) 18 o18_41) 28 op_42) 29 oy_43) 0 oa_44) 1 ob_45) 30 ou_46) 31 oh_47) 32 on_48) op_42 i oy_43 _ (show 0 ≤ i.toInt ∧ i.toInt ≤ op_42.toInt ∧ op_42.toInt ≤ 12 by omega) (show 0 ≤ oy_43.toInt ∧ oy_43.toInt ≤ 1000 by omega)) (cwV 3 htb (gzV wmt4_229 wmt4_231 wmp3_10 wmt1_8 wmt4_232) rfl rfl rfl (by decide +kernel) ⟨Nat.le_of_ble_eq_true rfl, Nat.le_of_ble_eq_true rfl⟩) (zpA_V (ci := 7) (q0 := 0) hK hP (hDa _) rfl rfl) rfl rfl hl.1 rfl (lv_room (Nat.le_of_ble_eq_true rfl)) dX7_span_95 ⟨Nat.le_of_ble_eq_true rfl, Nat.le_of_ble_eq_true rfl⟩) (hDa _) hS hA (fun r_63 u_64 H locs w_65 hP _ hS => ?_)
                    refine lv_lmul hx hb dX7_span_98 ?_
                    refine lv_topl (fun x_66 ex_66 => ?_)
                    refine lv_iload_n hx hb dX7_span_99 rfl (lv_at hl 7 rfl) ?_
                    refine lv_i2l (v := w.toInt64) hx hb dX7_span_100 rfl ?_
                    refine lv_topl (fun x_67 ex_67 => ?_)
                    have hx_67 : x_67.toInt = w.toInt := by rw [ex_67]; exact Jvm.Kit.i64_of_i32 _
                    refine lv_lload hx hb dX7_span_101 (lv_at hl 2 rfl) ?_
                    refine lv_lmul hx hb dX7_span_103 ?_
                    refine lv_topl (fun x_68 ex_68 => ?_)
                    refine z_lcmp hx hb dX7_span_104 ?_
                    refine lv_if_lt (tgt := 112) hx hb dX7_span_105 (by decide) (fun c_69 => ?_) (fun c_69 => ?_)
                    · skip
                      have hc_69 := zl_lt rfl rfl c_69
                      refine lv_iconst (v := 0) hx hb dX7_span_112 (by decide) ?_
                      refine lv_istore (lv' := [(10, .int 0), (9, .int i), (8, .int bs), (6, .long r_59), (5, .int r_25), (0, .ref (q 0)), (1, .int g), (2, .int d), (3, .int w), (4, .int n)]) hx hb dX7_span_113 hl (by decide) rfl (fun ls hl => ?_)
                      refine lv_iload hx hb dX7_span_115 (lv_at hl 0 rfl) ?_
                      refine lv_if_eq (tgt := 137) hx hb dX7_span_117 (by decide) (fun c_70 => ?_) (fun c_70 => ?_)
                      · skip
                        refine lv_iload hx hb dX7_span_137 (lv_at hl 2 rfl) ?_
                        refine lv_istore (lv' := [(8, .int bs), (10, .int 0), (9, .int i), (6, .long r_59), (5, .int r_25), (0, .ref (q 0)), (1, .int g), (2, .int d), (3, .int w), (4, .int n)]) hx hb dX7_span_139 hl (by decide) rfl (fun ls hl => ?_)
                        obtain ⟨x_71, ex_71⟩ : ∃ y : Int32, y = i + 1 := ⟨_, rfl⟩
                        have hx_71 : x_71.toInt = i.toInt + 1 := z_add ex_71 rfl (show (1 : Int32).toInt = 1 by decide) (by omega)
                        refine lv_iinc (v := x_71) (lv' := [(9, .int x_71), (8, .int bs), (10, .int 0), (6, .long r_59), (5, .int r_25), (0, .ref (q 0)), (1, .int g), (2, .int d), (3, .int w), (4, .int n)]) hx hb dX7_span_141 hl (k := 2) rfl (by rw [ex_71]; rfl) (by decide) rfl (fun ls hl => ?_)
                        refine lv_goto (tgt := 72) hx hb dX7_span_144 (by decide) ?_
                        exact ih72 ((13 - x_71.toInt).toNat) (by omega) bs x_71 (show 0 ≤ x_71.toInt ∧ x_71.toInt ≤ 13 by omega) rfl H locs ls hP hS (lv_sub hl [0, 1, 3, 4, 5, 6, 7, 8, 9] rfl)
                      · skip
                        exact absurd (by decide) c_70
                    · skip
                      have hc_69 := zl_nlt rfl rfl c_69
                      refine lv_iconst (v := 1) hx hb dX7_span_108 (by decide) ?_
                      refine lv_goto (tgt := 113) hx hb dX7_span_109 (by decide) ?_
                      refine lv_istore (lv' := [(10, .int 1), (9, .int i), (8, .int bs), (6, .long r_59), (5, .int r_25), (0, .ref (q 0)), (1, .int g), (2, .int d), (3, .int w), (4, .int n)]) hx hb dX7_span_113 hl (by decide) rfl (fun ls hl => ?_)
                      refine lv_iload hx hb dX7_span_115 (lv_at hl 0 rfl) ?_
                      refine lv_if_eq (tgt := 137) hx hb dX7_span_117 (by decide) (fun c_72 => ?_) (fun c_72 => ?_)
                      · skip
                        exact absurd c_72 (by decide)
                      · skip
                        refine lv_iload hx hb dX7_span_120 (lv_at hl 2 rfl) ?_
                        refine lv_iconst (v := (-1)) hx hb dX7_span_122 (by decide) ?_
                        refine lv_icmp_eq (tgt := 132) hx hb dX7_span_123 (by decide) (fun c_73 => ?_) (fun c_73 => ?_)
                        · skip
                          have hc_73 := zb_eq rfl (show ((-1) : Int32).toInt = (-1) by decide) c_73
                          refine lv_iload hx hb dX7_span_132 (lv_at hl 1 rfl) ?_
                          refine lv_goto (tgt := 139) hx hb dX7_span_134 (by decide) ?_
                          refine lv_istore (lv' := [(8, .int i), (10, .int 1), (9, .int i), (6, .long r_59), (5, .int r_25), (0, .ref (q 0)), (1, .int g), (2, .int d), (3, .int w), (4, .int n)]) hx hb dX7_span_139 hl (by decide) rfl (fun ls hl => ?_)
                          obtain ⟨x_74, ex_74⟩ : ∃ y : Int32, y = i + 1 := ⟨_, rfl⟩
                          have hx_74 : x_74.toInt = i.toInt + 1 := z_add ex_74 rfl (show (1 : Int32).toInt = 1 by decide) (by omega)
                          refine lv_iinc (v := x_74) (lv' := [(9, .int x_74), (8, .int i), (10, .int 1), (6, .long r_59), (5, .int r_25), (0, .ref (q 0)), (1, .int g), (2, .int d), (3, .int w), (4, .int n)]) hx hb dX7_span_141 hl (k := 2) rfl (by rw [ex_74]; rfl) (by decide) rfl (fun ls hl => ?_)
                          refine lv_goto (tgt := 72) hx hb dX7_span_144 (by decide) ?_
                          exact ih72 ((13 - x_74.toInt).toNat) (by omega) i x_74 (show 0 ≤ x_74.toInt ∧ x_74.toInt ≤ 13 by omega) rfl H locs ls hP hS (lv_sub hl [0, 1, 3, 4, 5, 6, 7, 8, 9] rfl)
                        · skip
                          have hc_73 := zb_ne rfl (show ((-1) : Int32).toInt = (-1) by decide) c_73
                          refine lv_iload hx hb dX7_span_126 (lv_at hl 9 rfl) ?_
                          refine lv_iconst (v := 1) hx hb dX7_span_128 (by decide) ?_
                          refine lv_icmp_ne (tgt := 137) hx hb dX7_span_129 (by decide) (fun c_75 => ?_) (fun c_75 => ?_)
                          · skip
                            have hc_75 := zb_ne rfl (show (1 : Int32).toInt = 1 by decide) c_75
                            refine lv_iload hx hb dX7_span_137 (lv_at hl 2 rfl) ?_
                            refine lv_istore (lv' := [(8, .int bs), (10, .int 1), (9, .int i), (6, .long r_59), (5, .int r_25), (0, .ref (q 0)), (1, .int g), (2, .int d), (3, .int w), (4, .int n)]) hx hb dX7_span_139 hl (by decide) rfl (fun ls hl => ?_)
                            obtain ⟨x_76, ex_76⟩ : ∃ y : Int32, y = i + 1 := ⟨_, rfl⟩
                            have hx_76 : x_76.toInt = i.toInt + 1 := z_add ex_76 rfl (show (1 : Int32).toInt = 1 by decide) (by omega)
                            refine lv_iinc (v := x_76) (lv' := [(9, .int x_76), (8, .int bs), (10, .int 1), (6, .long r_59), (5, .int r_25), (0, .ref (q 0)), (1, .int g), (2, .int d), (3, .int w), (4, .int n)]) hx hb dX7_span_141 hl (k := 2) rfl (by rw [ex_76]; rfl) (by decide) rfl (fun ls hl => ?_)
                            refine lv_goto (tgt := 72) hx hb dX7_span_144 (by decide) ?_
                            exact ih72 ((13 - x_76.toInt).toNat) (by omega) bs x_76 (show 0 ≤ x_76.toInt ∧ x_76.toInt ≤ 13 by omega) rfl H locs ls hP hS (lv_sub hl [0, 1, 3, 4, 5, 6, 7, 8, 9] rfl)
                          · skip
                            have hc_75 := zb_eq rfl (show (1 : Int32).toInt = 1 by decide) c_75
                            refine lv_iload hx hb dX7_span_132 (lv_at hl 1 rfl) ?_
                            refine lv_goto (tgt := 139) hx hb dX7_span_134 (by decide) ?_
                            refine lv_istore (lv' := [(8, .int i), (10, .int 1), (9, .int i), (6, .long r_59), (5, .int r_25), (0, .ref (q 0)), (1, .int g), (2, .int d), (3, .int w), (4, .int n)]) hx hb dX7_span_139 hl (by decide) rfl (fun ls hl => ?_)
                            obtain ⟨x_77, ex_77⟩ : ∃ y : Int32, y = i + 1 := ⟨_, rfl⟩
                            have hx_77 : x_77.toInt = i.toInt + 1 := z_add ex_77 rfl (show (1 : Int32).toInt = 1 by decide) (by omega)
                            refine lv_iinc (v := x_77) (lv' := [(9, .int x_77), (8, .int i), (10, .int 1), (6, .long r_59), (5, .int r_25), (0, .ref (q 0)), (1, .int g), (2, .int d), (3, .int w), (4, .int n)]) hx hb dX7_span_141 hl (k := 2) rfl (by rw [ex_77]; rfl) (by decide) rfl (fun ls hl => ?_)
                            refine lv_goto (tgt := 72) hx hb dX7_span_144 (by decide) ?_
                            exact ih72 ((13 - x_77.toInt).toNat) (by omega) i x_77 (show 0 ≤ x_77.toInt ∧ x_77.toInt ≤ 13 by omega) rfl H locs ls hP hS (lv_sub hl [0, 1, 3, 4, 5, 6, 7, 8, 9] rfl)
              · skip
                have hc_53 := zb_ne rfl (show (0 : Int32).toInt = 0 by decide) c_53
                refine lv_iload hx hb dX7_span_45 (lv_at hl 0 rfl) ?_
                exact W.iret (v := r_25) hx hb hr (fun t ht hW => ⟨⟨r_25, (o4_28, o5_29, o6_30, o7_31, o8_32, o9_33, o10_34, o12_35, o13_36, o14_37, o15_38, o16_39, o17_40, o18_41, op_42, oy_43, oa_44, ob_45, ou_46, oh_47, on_48), rfl, (show (MD (FR (z.2.2.1 2) (z.2.2.1 3)) o4_28 o5_29 o6_30 o7_31 o8_32 o9_33 o10_34) from hI.2.2.2.2.2), ⟨by rw [ht]; exact hP, hDa _⟩⟩, hS.F ht⟩) hS.2.2 dX7_span_47
            · skip
              exact absurd c_24 (by decide)
          · skip
            replace e_23 : r_17 = 0 := e_23
            subst e_23
            replace h_22 : ¬ ((0 : Int32).toInt ≤ n.toInt ∧ n.toInt ≤ (1 : Int32).toInt) := h_22
            rw [show (0 : Int32).toInt = 0 by decide, show (1 : Int32).toInt = 1 by decide] at h_22
            refine lv_if_ne (tgt := 31) hx hb dX7_span_25 (by decide) (fun c_78 => ?_) (fun c_78 => ?_)
            · skip
              exact absurd c_78 (by decide)
            · skip
              refine lv_bipush (v := (-2)) hx hb dX7_span_28 (by decide) ?_
              exact W.iret (v := (-2)) hx hb hr (fun t ht hW => ⟨⟨(-2), (z.2.2.1 4, z.2.2.1 5, z.2.2.1 6, z.2.2.1 7, z.2.2.1 8, z.2.2.1 9, z.2.2.1 10, z.1 12, z.1 13, z.1 14, z.1 15, z.2.2.1 16, z.2.2.1 17, z.2.2.1 18, z.1 28, z.1 29, z.2.1 0, z.2.1 1, z.2.1 30, z.2.1 31, z.2.1 32), rfl, (show (MD (FR (z.2.2.1 2) (z.2.2.1 3)) (z.2.2.1 4) (z.2.2.1 5) (z.2.2.1 6) (z.2.2.1 7) (z.2.2.1 8) (z.2.2.1 9) (z.2.2.1 10)) from hI.2.2.2.2.2), ⟨by rw [ht]; exact hP, hDa _⟩⟩, hS.F ht⟩) hS.2.2 dX7_span_30
      · skip
        replace e_15 : r_9 = 0 := e_15
        subst e_15
        replace h_14 : ¬ ((1 : Int32).toInt ≤ w.toInt ∧ w.toInt ≤ (100 : Int32).toInt) := h_14
        rw [show (1 : Int32).toInt = 1 by decide, show (100 : Int32).toInt = 100 by decide] at h_14
        refine lv_if_eq (tgt := 28) hx hb dX7_span_15 (by decide) (fun c_79 => ?_) (fun c_79 => ?_)
        · skip
          refine lv_bipush (v := (-2)) hx hb dX7_span_28 (by decide) ?_
          exact W.iret (v := (-2)) hx hb hr (fun t ht hW => ⟨⟨(-2), (z.2.2.1 4, z.2.2.1 5, z.2.2.1 6, z.2.2.1 7, z.2.2.1 8, z.2.2.1 9, z.2.2.1 10, z.1 12, z.1 13, z.1 14, z.1 15, z.2.2.1 16, z.2.2.1 17, z.2.2.1 18, z.1 28, z.1 29, z.2.1 0, z.2.1 1, z.2.1 30, z.2.1 31, z.2.1 32), rfl, (show (MD (FR (z.2.2.1 2) (z.2.2.1 3)) (z.2.2.1 4) (z.2.2.1 5) (z.2.2.1 6) (z.2.2.1 7) (z.2.2.1 8) (z.2.2.1 9) (z.2.2.1 10)) from hI.2.2.2.2.2), ⟨by rw [ht]; exact hP, hDa _⟩⟩, hS.F ht⟩) hS.2.2 dX7_span_30
        · skip
          exact absurd (by decide) c_79
  · skip
    replace e_7 : r_1 = 0 := e_7
    subst e_7
    replace h_6 : ¬ ((0 ≤ g.toInt ∧ g.toInt < 4) ∧ (0 ≤ d.toInt ∧ d.toInt < 4)) := h_6
    refine lv_if_eq (tgt := 28) hx hb dX7_span_5 (by decide) (fun c_80 => ?_) (fun c_80 => ?_)
    · skip
      refine lv_bipush (v := (-2)) hx hb dX7_span_28 (by decide) ?_
      exact W.iret (v := (-2)) hx hb hr (fun t ht hW => ⟨⟨(-2), (z.2.2.1 4, z.2.2.1 5, z.2.2.1 6, z.2.2.1 7, z.2.2.1 8, z.2.2.1 9, z.2.2.1 10, z.1 12, z.1 13, z.1 14, z.1 15, z.2.2.1 16, z.2.2.1 17, z.2.2.1 18, z.1 28, z.1 29, z.2.1 0, z.2.1 1, z.2.1 30, z.2.1 31, z.2.1 32), rfl, (show (MD (FR (z.2.2.1 2) (z.2.2.1 3)) (z.2.2.1 4) (z.2.2.1 5) (z.2.2.1 6) (z.2.2.1 7) (z.2.2.1 8) (z.2.2.1 9) (z.2.2.1 10)) from hI.2.2.2.2.2), ⟨by rw [ht]; exact hP, hDa _⟩⟩, hS.F ht⟩) hS.2.2 dX7_span_30
    · skip
      exact absurd (by decide) c_80
set_option maxHeartbeats 4000000 in
set_option maxRecDepth 100000 in
theorem c_X7_millionths (l : Launch) (dC : Nat → ClassId) (dI : Nat → Nat → Nat) (k : Nat → ClassId) (x0 : Int64) (y0 : Int64) (sz : Nat) (h1 : 1 ≤ y0.toInt) : Met l yX7_millionths (wz yX7_millionths cX7_millionths 8 (some .int)) ({ frames := 0, cells := 0, slots := 0, locals := 0 }) (va_Pc [.long x0, .long y0] (zPre dC dI k (zTX k) [] sz)) (va_Qi (fun (r : Int32) (u : Unit) => True) (fun u t => zPost dC dI (va_A [] sz) [] t) (va_A [] sz)) 0 0 (va_A [] sz) := by
  refine Met.ofW (cc := cX7_millionths) (maxL := 8) (ret := (some .int)) (by decide) rfl ?_
  intro p e s m args below meth c s₁ B hml hv
  obtain ⟨rfl, hsz, hP, hK, hD0⟩ := hv
  have hx := B.exec
  have hb := B.bytes
  have hr := B.returns
  have hts := atoms_spec (ws := wz yX7_millionths cX7_millionths 8 (some .int)) B.pre
  have htb : ∀ w ∈ zw, w.before _ s = true := fun w h => hts w (List.mem_cons_of_mem _ h)
  have hown : s.vm.findClass RX7 = some m.cls := findClass_of_methodNamed B.named
  have hlocks := B.notSynchronized
  clear hts
  subst hsz
  have hD := hD0.self (sz := s.heap.size)
  generalize hAe : va_A [] s.heap.size = A at hD ⊢
  have hA : ∀ q : Nat, s.heap.size ≤ q → A q := fun q h => by rw [← hAe]; exact Or.inr h
  have hl := lv_entry ([.long x0, .long y0]) (n := 8) (Nat.le_of_ble_eq_true rfl)
  rw [lg_entry_eq]
  generalize (lg_sl ([.long x0, .long y0]) ++ List.replicate (8 - (lg_sl ([.long x0, .long y0])).length) Slot.unset).toArray = ls at hl ⊢
  have hl : lv_has ls 8 [(0, .long x0), (2, .long y0)] := hl
  refine z_start2 (A := A) (w := []) hP (fun H locs hP hS => ?_)
  clear hD0 hAe
  refine lv_lload_n hx hb dX7_millionths_0 rfl (lv_at hl 0 rfl) ?_
  refine lv_lload_n hx hb dX7_millionths_1 rfl (lv_at hl 1 rfl) ?_
  refine lv_ldiv hx hb dX7_millionths_2 (z_l0ne (by omega)) ?_
  refine lv_topl (fun x_1 ex_1 => ?_)
  refine lv_l2i (v := x_1.toInt32) hx hb dX7_millionths_3 rfl ?_
  refine lv_topi (fun x_2 ex_2 => ?_)
  refine lv_istore (lv' := [(4, .int x_2), (0, .long x0), (2, .long y0)]) hx hb dX7_millionths_4 hl (by decide) rfl (fun ls hl => ?_)
  refine lv_lload_n hx hb dX7_millionths_6 rfl (lv_at hl 1 rfl) ?_
  refine lv_lload_n hx hb dX7_millionths_7 rfl (lv_at hl 2 rfl) ?_
  refine lv_lrem hx hb dX7_millionths_8 (z_l0ne (by omega)) ?_
  refine lv_topl (fun x_3 ex_3 => ?_)
  refine lv_lstore (lv' := [(5, .long x_3), (4, .int x_2), (0, .long x0), (2, .long y0)]) hx hb dX7_millionths_9 hl (by decide) rfl (fun ls hl => ?_)
  refine lv_iconst (v := 0) hx hb dX7_millionths_11 (by decide) ?_
  refine lv_istore (lv' := [(7, .int 0), (5, .long x_3), (4, .int x_2), (0, .long x0), (2, .long y0)]) hx hb dX7_millionths_12 hl (by decide) rfl (fun ls hl => ?_)
  obtain ⟨v, ev⟩ : ∃ x : Int32, x_2 = x := ⟨_, rfl⟩
  obtain ⟨rs, ers⟩ : ∃ x : Int64, x_3 = x := ⟨_, rfl⟩
  obtain ⟨i, ei⟩ : ∃ x : Int32, 0 = x := ⟨_, rfl⟩
  have hv14 : (0 ≤ i.toInt ∧ i.toInt ≤ 6) := by subst ev ers ei; exact (by decide)
  replace hl : lv_has ls 8 [(7, .int i), (5, .long rs), (4, .int v), (0, .long x0), (2, .long y0)] := by subst ev ers ei; exact hl
  clear ev ers ei
  obtain ⟨mm14, hm14⟩ : ∃ mm : Nat, mm = (6 - i.toInt).toNat := ⟨_, rfl⟩
  refine z_cut2 hP hS hl ?_
  clear hl hP
  intro H locs ls hP hS hl
  induction mm14 using Nat.strongRecOn generalizing v rs i H locs ls with
  | _ mm14 ih14 =>
    have hi := hv14
    refine lv_iload hx hb dX7_millionths_14 (lv_at hl 0 rfl) ?_
    refine lv_bipush (v := 6) hx hb dX7_millionths_16 (by decide) ?_
    refine lv_icmp_ge (tgt := 54) hx hb dX7_millionths_18 (by decide) (fun c_4 => ?_) (fun c_4 => ?_)
    · skip
      have hc_4 := zb_le (show (6 : Int32).toInt = 6 by decide) rfl c_4
      refine lv_iload hx hb dX7_millionths_54 (lv_at hl 2 rfl) ?_
      exact W.iret (v := v) hx hb hr (fun t ht hW => ⟨⟨v, (), rfl, trivial, ⟨by rw [ht]; exact hP, hD⟩⟩, hS.F ht⟩) hS.2.2 dX7_millionths_56
    · skip
      have hc_4 := zb_nle (show (6 : Int32).toInt = 6 by decide) rfl c_4
      refine lv_lload hx hb dX7_millionths_21 (lv_at hl 1 rfl) ?_
      refine lv_ldc2 (v := 10) hx hb hown (htb _ wmt5_27) dX7_millionths_23 ?_
      refine lv_lmul hx hb dX7_millionths_26 ?_
      refine lv_topl (fun x_5 ex_5 => ?_)
      refine lv_lstore (lv' := [(5, .long x_5), (7, .int i), (4, .int v), (0, .long x0), (2, .long y0)]) hx hb dX7_millionths_27 hl (by decide) rfl (fun ls hl => ?_)
      refine lv_bipush (v := 10) hx hb dX7_millionths_29 (by decide) ?_
      refine lv_iload hx hb dX7_millionths_31 (lv_at hl 2 rfl) ?_
      refine lv_imul hx hb dX7_millionths_33 ?_
      refine lv_topi (fun x_6 ex_6 => ?_)
      refine lv_lload hx hb dX7_millionths_34 (lv_at hl 0 rfl) ?_
      refine lv_lload_n hx hb dX7_millionths_36 rfl (lv_at hl 4 rfl) ?_
      refine lv_ldiv hx hb dX7_millionths_37 (z_l0ne (by omega)) ?_
      refine lv_topl (fun x_7 ex_7 => ?_)
      refine lv_l2i (v := x_7.toInt32) hx hb dX7_millionths_38 rfl ?_
      refine lv_topi (fun x_8 ex_8 => ?_)
      refine lv_iadd hx hb dX7_millionths_39 ?_
      refine lv_topi (fun x_9 ex_9 => ?_)
      refine lv_istore (lv' := [(4, .int x_9), (5, .long x_5), (7, .int i), (0, .long x0), (2, .long y0)]) hx hb dX7_millionths_40 hl (by decide) rfl (fun ls hl => ?_)
      refine lv_lload hx hb dX7_millionths_42 (lv_at hl 1 rfl) ?_
      refine lv_lload_n hx hb dX7_millionths_44 rfl (lv_at hl 4 rfl) ?_
      refine lv_lrem hx hb dX7_millionths_45 (z_l0ne (by omega)) ?_
      refine lv_topl (fun x_10 ex_10 => ?_)
      refine lv_lstore (lv' := [(5, .long x_10), (4, .int x_9), (7, .int i), (0, .long x0), (2, .long y0)]) hx hb dX7_millionths_46 hl (by decide) rfl (fun ls hl => ?_)
      obtain ⟨x_11, ex_11⟩ : ∃ y : Int32, y = i + 1 := ⟨_, rfl⟩
      have hx_11 : x_11.toInt = i.toInt + 1 := z_add ex_11 rfl (show (1 : Int32).toInt = 1 by decide) (by omega)
      refine lv_iinc (v := x_11) (lv' := [(7, .int x_11), (5, .long x_10), (4, .int x_9), (0, .long x0), (2, .long y0)]) hx hb dX7_millionths_48 hl (k := 2) rfl (by rw [ex_11]; rfl) (by decide) rfl (fun ls hl => ?_)
      refine lv_goto (tgt := 14) hx hb dX7_millionths_51 (by decide) ?_
      exact ih14 ((6 - x_11.toInt).toNat) (by omega) x_9 x_10 x_11 (show 0 ≤ x_11.toInt ∧ x_11.toInt ≤ 6 by omega) rfl H locs ls hP hS (lv_sub hl [0, 1, 2, 3, 4] rfl)
set_option maxHeartbeats 4000000 in
set_option maxRecDepth 100000 in
theorem c_X7_shareOfWays (l : Launch) (dC : Nat → ClassId) (dI : Nat → Nat → Nat) (k : Nat → ClassId) (q : Nat → Nat) (z : ZS) (kk : Int32) (fr : Int32) (to : Int32) (sz : Nat) (hp : 0 ≤ kk.toInt ∧ kk.toInt ≤ (z.1 28).toInt ∧ (z.1 28).toInt ≤ 12) (hu : 1 ≤ (z.2.1 30).toInt ∧ (z.2.1 30).toInt ≤ 24) (hf : 0 ≤ fr.toInt ∧ fr.toInt ≤ 120) (ht : to.toInt ≤ 120) : Met l yX7_shareOfWays (wz yX7_shareOfWays cX7_shareOfWays 7 (some .int)) ({ frames := 2, cells := 0, slots := 0, locals := 56 }) (va_Pc [.ref (q 0), .int kk, .int fr, .int to] (zPre dC dI k (zTX k) (zM k q z) sz)) (va_Qi (fun (r : Int32) (u : Unit) => True) (fun u t => zPost dC dI (va_A (zM k q z) sz) (zM k q z) t) (va_A (zM k q z) sz)) 0 0 (va_A (zM k q z) sz) := by
  refine Met.ofW (cc := cX7_shareOfWays) (maxL := 7) (ret := (some .int)) (by decide) rfl ?_
  intro p e s m args below meth c s₁ B hml hv
  obtain ⟨rfl, hsz, hP, hK, hD0⟩ := hv
  have hx := B.exec
  have hb := B.bytes
  have hr := B.returns
  have hts := atoms_spec (ws := wz yX7_shareOfWays cX7_shareOfWays 7 (some .int)) B.pre
  have htb : ∀ w ∈ zw, w.before _ s = true := fun w h => hts w (List.mem_cons_of_mem _ h)
  have hown : s.vm.findClass RX7 = some m.cls := findClass_of_methodNamed B.named
  have hlocks := B.notSynchronized
  clear hts
  subst hsz
  have hD := hD0.self (sz := s.heap.size)
  generalize hAe : va_A (zM k q z) s.heap.size = A at hD ⊢
  have hA : ∀ q : Nat, s.heap.size ≤ q → A q := fun q h => by rw [← hAe]; exact Or.inr h
  have hDa : ∀ z9 : ZS, va_D A (zM k q z9) := fun z9 => va_D_adr (w := zM k q z) rfl hD
  have hl := lv_entry ([.ref (q 0), .int kk, .int fr, .int to]) (n := 7) (Nat.le_of_ble_eq_true rfl)
  rw [lg_entry_eq]
  generalize (lg_sl ([.ref (q 0), .int kk, .int fr, .int to]) ++ List.replicate (7 - (lg_sl ([.ref (q 0), .int kk, .int fr, .int to])).length) Slot.unset).toArray = ls at hl ⊢
  have hl : lv_has ls 7 [(0, .ref (q 0)), (1, .int kk), (2, .int fr), (3, .int to)] := hl
  refine z_start2 (A := A) (w := (zM k q z)) hP (fun H locs hP hS => ?_)
  clear hD0 hAe
  refine lv_lconst (v := 0) hx hb dX7_shareOfWays_0 (by decide) ?_
  refine lv_lstore (lv' := [(4, .long 0), (0, .ref (q 0)), (1, .int kk), (2, .int fr), (3, .int to)]) hx hb dX7_shareOfWays_1 hl (by decide) rfl (fun ls hl => ?_)
  refine lv_iload_n hx hb dX7_shareOfWays_3 rfl (lv_at hl 3 rfl) ?_
  refine lv_istore (lv' := [(6, .int fr), (4, .long 0), (0, .ref (q 0)), (1, .int kk), (2, .int fr), (3, .int to)]) hx hb dX7_shareOfWays_4 hl (by decide) rfl (fun ls hl => ?_)
  obtain ⟨sm, esm⟩ : ∃ x : Int64, 0 = x := ⟨_, rfl⟩
  obtain ⟨i, ei⟩ : ∃ x : Int32, fr = x := ⟨_, rfl⟩
  have hv6 : (0 ≤ i.toInt ∧ i.toInt ≤ 121) := by subst esm ei; exact (show 0 ≤ fr.toInt ∧ fr.toInt ≤ 121 by omega)
  replace hl : lv_has ls 7 [(6, .int i), (4, .long sm), (0, .ref (q 0)), (1, .int kk), (2, .int fr), (3, .int to)] := by subst esm ei; exact hl
  clear esm ei
  obtain ⟨mm6, hm6⟩ : ∃ mm : Nat, mm = (121 - i.toInt).toNat := ⟨_, rfl⟩
  refine z_cut2 hP hS hl ?_
  clear hl hP
  intro H locs ls hP hS hl
  induction mm6 using Nat.strongRecOn generalizing sm i H locs ls with
  | _ mm6 ih6 =>
    have hi := hv6
    refine lv_iload hx hb dX7_shareOfWays_6 (lv_at hl 0 rfl) ?_
    refine lv_iload_n hx hb dX7_shareOfWays_8 rfl (lv_at hl 5 rfl) ?_
    refine lv_icmp_gt (tgt := 34) hx hb dX7_shareOfWays_9 (by decide) (fun c_1 => ?_) (fun c_1 => ?_)
    · skip
      have hc_1 := zb_lt rfl rfl c_1
      refine lv_lload hx hb dX7_shareOfWays_34 (lv_at hl 1 rfl) ?_
      refine lv_aload_n hx hb dX7_shareOfWays_36 rfl (lv_at hl 2 rfl) ?_
      refine va_get (D := (dC, dI)) (ci := 7) (v := .long (z.2.1 30)) (C := RX7) (T := TX7) (N := 42) hx hb htb inw7 hown hK.1 hP 0 rfl rfl 30 (by decide) (htb _ wmt3_197) (fun _ h9 => h9) rfl dX7_shareOfWays_37 ?_
      refine lv_topl (fun x_2 ex_2 => ?_)
      have hx_2 : x_2.toInt = (z.2.1 30).toInt := by rw [ex_2]
      refine lv_aload_n hx hb dX7_shareOfWays_40 rfl (lv_at hl 2 rfl) ?_
      refine va_get (D := (dC, dI)) (ci := 7) (v := .int (z.1 28)) (C := RX7) (T := TX7) (N := 42) hx hb htb inw7 hown hK.1 hP 0 rfl rfl 28 (by decide) (htb _ wmt3_195) (fun _ h9 => h9) rfl dX7_shareOfWays_41 ?_
      refine lv_topi (fun x_3 ex_3 => ?_)
      have hx_3 : x_3.toInt = (z.1 28).toInt := by rw [ex_3]
      refine zc0_l (w := (zM k q z)) (va_runS (As := [.long x_2, .int x_3]) (rest := [.long sm]) ⟨hx, hb, hml, hown, htb⟩ (c_X7_power_pos l dC dI k x_2 x_3 _ (by omega) (by omega)) (va_cwS 2 htb (gzS wmt4_236 wmt4_237 wmt1_8 wmt4_238) rfl rfl rfl (by decide +kernel) ⟨Nat.le_of_ble_eq_true rfl, Nat.le_of_ble_eq_true rfl⟩) (zp0_S hK) rfl rfl hl.1 rfl (lv_room (Nat.le_of_ble_eq_true rfl)) dX7_shareOfWays_44 ⟨Nat.le_of_ble_eq_true rfl, Nat.le_of_ble_eq_true rfl⟩) hP hS hA (fun r_4 u_5 H locs w_6 hP hS => ?_)
      have h_7 := w_6
      replace h_7 : 1 ≤ r_4.toInt := h_7
      refine zc0_i (w := (zM k q z)) (va_runS (As := [.long sm, .long r_4]) (rest := []) ⟨hx, hb, hml, hown, htb⟩ (c_X7_millionths l dC dI k sm r_4 _ (by omega)) (va_cwS 2 htb (gzS wmt5_24 wmt5_25 wmt1_8 wmt5_26) rfl rfl rfl (by decide +kernel) ⟨Nat.le_of_ble_eq_true rfl, Nat.le_of_ble_eq_true rfl⟩) (zp0_S hK) rfl rfl hl.1 rfl (lv_room (Nat.le_of_ble_eq_true rfl)) dX7_shareOfWays_47 ⟨Nat.le_of_ble_eq_true rfl, Nat.le_of_ble_eq_true rfl⟩) hP hS hA (fun r_9 u_10 H locs w_11 hP hS => ?_)
      exact W.iret (v := r_9) hx hb hr (fun t ht hW => ⟨⟨r_9, (), rfl, trivial, ⟨by rw [ht]; exact hP, hDa _⟩⟩, hS.F ht⟩) hS.2.2 dX7_shareOfWays_50
    · skip
      have hc_1 := zb_nlt rfl rfl c_1
      refine lv_lload hx hb dX7_shareOfWays_12 (lv_at hl 1 rfl) ?_
      refine lv_aload_n hx hb dX7_shareOfWays_14 rfl (lv_at hl 2 rfl) ?_
      refine lv_aload_n hx hb dX7_shareOfWays_15 rfl (lv_at hl 2 rfl) ?_
      refine va_get (D := (dC, dI)) (ci := 7) (v := .int (z.1 28)) (C := RX7) (T := TX7) (N := 42) hx hb htb inw7 hown hK.1 hP 0 rfl rfl 28 (by decide) (htb _ wmt3_195) (fun _ h9 => h9) rfl dX7_shareOfWays_16 ?_
      refine lv_topi (fun x_12 ex_12 => ?_)
      have hx_12 : x_12.toInt = (z.1 28).toInt := by rw [ex_12]
      refine lv_iload_n hx hb dX7_shareOfWays_19 rfl (lv_at hl 3 rfl) ?_
      refine lv_iload hx hb dX7_shareOfWays_20 (lv_at hl 0 rfl) ?_
      refine zcA_l (w := (zM k q z)) (va_runV (As := [.int x_12, .int kk, .int i]) (rest := [.long sm]) ⟨hx, hb, hml, hown, htb⟩ (c_X7_waysOf l dC dI k q z x_12 kk i _ (show 0 ≤ kk.toInt ∧ kk.toInt ≤ x_12.toInt ∧ x_12.toInt ≤ 12 by omega) (show 0 ≤ i.toInt ∧ i.toInt ≤ 1000 by omega)) (cwV 3 htb (gzV wmt4_229 wmt4_231 wmp3_10 wmt1_8 wmt4_232) rfl rfl rfl (by decide +kernel) ⟨Nat.le_of_ble_eq_true rfl, Nat.le_of_ble_eq_true rfl⟩) (zpA_V (ci := 7) (q0 := 0) hK hP (hDa _) rfl rfl) rfl rfl hl.1 rfl (lv_room (Nat.le_of_ble_eq_true rfl)) dX7_shareOfWays_22 ⟨Nat.le_of_ble_eq_true rfl, Nat.le_of_ble_eq_true rfl⟩) (hDa _) hS hA (fun r_13 u_14 H locs w_15 hP _ hS => ?_)
      refine lv_ladd hx hb dX7_shareOfWays_25 ?_
      refine lv_topl (fun x_16 ex_16 => ?_)
      refine lv_lstore (lv' := [(4, .long x_16), (6, .int i), (0, .ref (q 0)), (1, .int kk), (2, .int fr), (3, .int to)]) hx hb dX7_shareOfWays_26 hl (by decide) rfl (fun ls hl => ?_)
      obtain ⟨x_17, ex_17⟩ : ∃ y : Int32, y = i + 1 := ⟨_, rfl⟩
      have hx_17 : x_17.toInt = i.toInt + 1 := z_add ex_17 rfl (show (1 : Int32).toInt = 1 by decide) (by omega)
      refine lv_iinc (v := x_17) (lv' := [(6, .int x_17), (4, .long x_16), (0, .ref (q 0)), (1, .int kk), (2, .int fr), (3, .int to)]) hx hb dX7_shareOfWays_28 hl (k := 1) rfl (by rw [ex_17]; rfl) (by decide) rfl (fun ls hl => ?_)
      refine lv_goto (tgt := 6) hx hb dX7_shareOfWays_31 (by decide) ?_
      exact ih6 ((121 - x_17.toInt).toNat) (by omega) x_16 x_17 (show 0 ≤ x_17.toInt ∧ x_17.toInt ≤ 121 by omega) rfl H locs ls hP hS (lv_sub hl [0, 1, 2, 3, 4, 5] rfl)
set_option maxHeartbeats 4000000 in
set_option maxRecDepth 100000 in
theorem c_X7_atLeast (l : Launch) (dC : Nat → ClassId) (dI : Nat → Nat → Nat) (k : Nat → ClassId) (q : Nat → Nat) (z : ZS) (g : Int32) (d : Int32) (n : Int32) (sz : Nat) (hI : MInv z) : Met l yX7_atLeast (wz yX7_atLeast cX7_atLeast 5 (some .int)) ({ frames := 7, cells := 0, slots := 0, locals := 160 }) (va_Pc [.ref (q 0), .int g, .int d, .int n] (zPre dC dI k (zTX k) (zM k q z) sz)) (va_Qi (fun (r : Int32) (u : (Nat → Int32) × (Nat → Int32) × (Nat → Int32) × (Nat → Int32) × (Nat → Int32) × (Nat → Int32) × (Nat → Int32) × Int32 × Int32 × Int32 × Int32 × (Nat → Int32) × (Nat → Int32) × (Nat → Int32) × Int32 × Int32 × Int64 × Int64 × Int64 × Int64 × Int64) => (MD (FR (z.2.2.1 2) (z.2.2.1 3)) u.1 u.2.1 u.2.2.1 u.2.2.2.1 u.2.2.2.2.1 u.2.2.2.2.2.1 u.2.2.2.2.2.2.1)) (fun u t => zPost dC dI (va_A (zM k q z) sz) (zM k q (sJ (sJ (sJ (sJ (sJ (sI (sI (sA (sA (sA (sI (sI (sI (sI (sA (sA (sA (sA (sA (sA (sA z 4 u.1) 5 u.2.1) 6 u.2.2.1) 7 u.2.2.2.1) 8 u.2.2.2.2.1) 9 u.2.2.2.2.2.1) 10 u.2.2.2.2.2.2.1) 12 u.2.2.2.2.2.2.2.1) 13 u.2.2.2.2.2.2.2.2.1) 14 u.2.2.2.2.2.2.2.2.2.1) 15 u.2.2.2.2.2.2.2.2.2.2.1) 16 u.2.2.2.2.2.2.2.2.2.2.2.1) 17 u.2.2.2.2.2.2.2.2.2.2.2.2.1) 18 u.2.2.2.2.2.2.2.2.2.2.2.2.2.1) 28 u.2.2.2.2.2.2.2.2.2.2.2.2.2.2.1) 29 u.2.2.2.2.2.2.2.2.2.2.2.2.2.2.2.1) 0 u.2.2.2.2.2.2.2.2.2.2.2.2.2.2.2.2.1) 1 u.2.2.2.2.2.2.2.2.2.2.2.2.2.2.2.2.2.1) 30 u.2.2.2.2.2.2.2.2.2.2.2.2.2.2.2.2.2.2.1) 31 u.2.2.2.2.2.2.2.2.2.2.2.2.2.2.2.2.2.2.2.1) 32 u.2.2.2.2.2.2.2.2.2.2.2.2.2.2.2.2.2.2.2.2)) t) (va_A (zM k q z) sz)) 0 0 (va_A (zM k q z) sz) := by
  refine Met.ofW (cc := cX7_atLeast) (maxL := 5) (ret := (some .int)) (by decide) rfl ?_
  intro p e s m args below meth c s₁ B hml hv
  obtain ⟨rfl, hsz, hP, hK, hD0⟩ := hv
  have hx := B.exec
  have hb := B.bytes
  have hr := B.returns
  have hts := atoms_spec (ws := wz yX7_atLeast cX7_atLeast 5 (some .int)) B.pre
  have htb : ∀ w ∈ zw, w.before _ s = true := fun w h => hts w (List.mem_cons_of_mem _ h)
  have hown : s.vm.findClass RX7 = some m.cls := findClass_of_methodNamed B.named
  have hlocks := B.notSynchronized
  clear hts
  subst hsz
  have hD := hD0.self (sz := s.heap.size)
  generalize hAe : va_A (zM k q z) s.heap.size = A at hD ⊢
  have hA : ∀ q : Nat, s.heap.size ≤ q → A q := fun q h => by rw [← hAe]; exact Or.inr h
  have hDa : ∀ z9 : ZS, va_D A (zM k q z9) := fun z9 => va_D_adr (w := zM k q z) rfl hD
  have hl := lv_entry ([.ref (q 0), .int g, .int d, .int n]) (n := 5) (Nat.le_of_ble_eq_true rfl)
  rw [lg_entry_eq]
  generalize (lg_sl ([.ref (q 0), .int g, .int d, .int n]) ++ List.replicate (5 - (lg_sl ([.ref (q 0), .int g, .int d, .int n])).length) Slot.unset).toArray = ls at hl ⊢
  have hl : lv_has ls 5 [(0, .ref (q 0)), (1, .int g), (2, .int d), (3, .int n)] := hl
  refine z_start2 (A := A) (w := (zM k q z)) hP (fun H locs hP hS => ?_)
  clear hD0 hAe
  refine lv_aload_n hx hb dX7_atLeast_0 rfl (lv_at hl 0 rfl) ?_
  refine lv_iload_n hx hb dX7_atLeast_1 rfl (lv_at hl 1 rfl) ?_
  refine lv_iload_n hx hb dX7_atLeast_2 rfl (lv_at hl 2 rfl) ?_
  refine lv_iload_n hx hb dX7_atLeast_3 rfl (lv_at hl 3 rfl) ?_
  refine zcA_i (w := (zM k q z)) (va_runV (As := [.int g, .int d, .int n]) (rest := []) ⟨hx, hb, hml, hown, htb⟩ (c_X7_refusesWays l dC dI k q z g d n _ hI) (cwV 3 htb (gzV wmt4_225 wmt4_227 wmp3_9 wmt1_8 wmt4_228) rfl rfl rfl (by decide +kernel) ⟨Nat.le_of_ble_eq_true rfl, Nat.le_of_ble_eq_true rfl⟩) (zpA_V (ci := 7) (q0 := 0) hK hP (hDa _) rfl rfl) rfl rfl hl.1 rfl (lv_room (Nat.le_of_ble_eq_true rfl)) dX7_atLeast_4 ⟨Nat.le_of_ble_eq_true rfl, Nat.le_of_ble_eq_true rfl⟩) (hDa _) hS hA (fun r_1 u_2 H locs w_3 hP _ hS => ?_)
  obtain ⟨o4_4, o5_5, o6_6, o7_7, o8_8, o9_9, o10_10, o12_11, o13_12, o14_13, o15_14, o16_15, o17_16, o18_17, op_18, oy_19, oa_20, ob_21, ou_22, oh_23, on_24⟩ := u_2
  have hP : va_P (dC, dI) vwCl (zM k q (sJ (sJ (sJ (sJ (sJ (sI (sI (sA (sA (sA (sI (sI (sI (sI (sA (sA (sA (sA (sA (sA (sA z 4 o4_4) 5 o5_5) 6 o6_6) 7 o7_7) 8 o8_8) 9 o9_9) 10 o10_10) 12 o12_11) 13 o13_12) 14 o14_13) 15 o15_14) 16 o16_15) 17 o17_16) 18 o18_17) 28 op_18) 29 oy_19) 0 oa_20) 1 ob_21) 30 ou_22) 31 oh_23) 32 on_24)) H := hP
  obtain ⟨h_25, h_26, h_27⟩ := w_3
  replace h_25 : MD (FR ((z.2.2.1 2)) ((z.2.2.1 3))) o4_4 o5_5 o6_6 o7_7 o8_8 o9_9 o10_10 := h_25
  replace h_26 : r_1.toInt = 0 → ((0 ≤ g.toInt ∧ g.toInt < 4) ∧ (0 ≤ d.toInt ∧ d.toInt < 4)) ∧ (0 ≤ oy_19.toInt ∧ oy_19.toInt ≤ op_18.toInt ∧ op_18.toInt ≤ 12) ∧ n.toInt ≤ op_18.toInt ∧ 0 ≤ n.toInt ∧ (1 ≤ ou_22.toInt ∧ ou_22.toInt ≤ 24) := h_26
  replace h_27 : ¬ r_1.toInt = 0 → r_1.toInt < 0 := h_27
  have hI : MInv (sJ (sJ (sJ (sJ (sJ (sI (sI (sA (sA (sA (sI (sI (sI (sI (sA (sA (sA (sA (sA (sA (sA z 4 o4_4) 5 o5_5) 6 o6_6) 7 o7_7) 8 o8_8) 9 o9_9) 10 o10_10) 12 o12_11) 13 o13_12) 14 o14_13) 15 o15_14) 16 o16_15) 17 o17_16) 18 o18_17) 28 op_18) 29 oy_19) 0 oa_20) 1 ob_21) 30 ou_22) 31 oh_23) 32 on_24) := ⟨hI.1, hI.2.1, hI.2.2.1, hI.2.2.2.1, hI.2.2.2.2.1, h_25⟩
  have hrw := h_26
  have hrn := h_27
  refine lv_istore (lv' := [(4, .int r_1), (0, .ref (q 0)), (1, .int g), (2, .int d), (3, .int n)]) hx hb dX7_atLeast_7 hl (by decide) rfl (fun ls hl => ?_)
  refine lv_iload hx hb dX7_atLeast_9 (lv_at hl 0 rfl) ?_
  refine lv_if_eq (tgt := 19) hx hb dX7_atLeast_11 (by decide) (fun c_29 => ?_) (fun c_29 => ?_)
  · skip
    have hc_29 := zb_eq rfl (show (0 : Int32).toInt = 0 by decide) c_29
    obtain ⟨hr1, hr2, hr3, hr4, hr5⟩ := hrw (by omega)
    refine lv_aload_n hx hb dX7_atLeast_19 rfl (lv_at hl 1 rfl) ?_
    refine lv_iload_n hx hb dX7_atLeast_20 rfl (lv_at hl 4 rfl) ?_
    refine lv_aload_n hx hb dX7_atLeast_21 rfl (lv_at hl 1 rfl) ?_
    refine va_get (D := (dC, dI)) (ci := 7) (v := .int oy_19) (C := RX7) (T := TX7) (N := 42) hx hb htb inw7 hown hK.1 hP 0 rfl rfl 29 (by decide) (htb _ wmt3_196) (fun _ h9 => h9) rfl dX7_atLeast_22 ?_
    refine lv_aload_n hx hb dX7_atLeast_25 rfl (lv_at hl 1 rfl) ?_
    refine va_get (D := (dC, dI)) (ci := 7) (v := .int op_18) (C := RX7) (T := TX7) (N := 42) hx hb htb inw7 hown hK.1 hP 0 rfl rfl 28 (by decide) (htb _ wmt3_195) (fun _ h9 => h9) rfl dX7_atLeast_26 ?_
    refine zcA_i (w := (zM k q (sJ (sJ (sJ (sJ (sJ (sI (sI (sA (sA (sA (sI (sI (sI (sI (sA (sA (sA (sA (sA (sA (sA z 4 o4_4) 5 o5_5) 6 o6_6) 7 o7_7) 8 o8_8) 9 o9_9) 10 o10_10) 12 o12_11) 13 o13_12) 14 o14_13) 15 o15_14) 16 o16_15) 17 o17_16) 18 o18_17) 28 op_18) 29 oy_19) 0 oa_20) 1 ob_21) 30 ou_22) 31 oh_23) 32 on_24))) (va_runV (As := [.int n, .int oy_19, .int op_18]) (rest := []) ⟨hx, hb, hml, hown, htb⟩ (c_X7_shareOfWays l dC dI k q (sJ (sJ (sJ (sJ (sJ (sI (sI (sA (sA (sA (sI (sI (sI (sI (sA (sA (sA (sA (sA (sA (sA z 4 o4_4) 5 o5_5) 6 o6_6) 7 o7_7) 8 o8_8) 9 o9_9) 10 o10_10) 12 o12_11) 13 o13_12) 14 o14_13) 15 o15_14) 16 o16_15) 17 o17_16) 18 o18_17) 28 op_18) 29 oy_19) 0 oa_20) 1 ob_21) 30 ou_22) 31 oh_23) 32 on_24) n oy_19 op_18 _ (show 0 ≤ n.toInt ∧ n.toInt ≤ (op_18).toInt ∧ (op_18).toInt ≤ 12 by omega) (show 1 ≤ (ou_22).toInt ∧ (ou_22).toInt ≤ 24 by omega) (show 0 ≤ oy_19.toInt ∧ oy_19.toInt ≤ 120 by omega) (show op_18.toInt ≤ 120 by omega)) (cwV 3 htb (gzV wmt5_20 wmt5_22 wmp3_13 wmt1_8 wmt5_23) rfl rfl rfl (by decide +kernel) ⟨Nat.le_of_ble_eq_true rfl, Nat.le_of_ble_eq_true rfl⟩) (zpA_V (ci := 7) (q0 := 0) hK hP (hDa _) rfl rfl) rfl rfl hl.1 rfl (lv_room (Nat.le_of_ble_eq_true rfl)) dX7_atLeast_29 ⟨Nat.le_of_ble_eq_true rfl, Nat.le_of_ble_eq_true rfl⟩) (hDa _) hS hA (fun r_30 u_31 H locs w_32 hP _ hS => ?_)
    exact W.iret (v := r_30) hx hb hr (fun t ht hW => ⟨⟨r_30, (o4_4, o5_5, o6_6, o7_7, o8_8, o9_9, o10_10, o12_11, o13_12, o14_13, o15_14, o16_15, o17_16, o18_17, op_18, oy_19, oa_20, ob_21, ou_22, oh_23, on_24), rfl, (show (MD (FR (z.2.2.1 2) (z.2.2.1 3)) o4_4 o5_5 o6_6 o7_7 o8_8 o9_9 o10_10) from hI.2.2.2.2.2), ⟨by rw [ht]; exact hP, hDa _⟩⟩, hS.F ht⟩) hS.2.2 dX7_atLeast_32
  · skip
    have hc_29 := zb_ne rfl (show (0 : Int32).toInt = 0 by decide) c_29
    refine lv_iload hx hb dX7_atLeast_14 (lv_at hl 0 rfl) ?_
    refine lv_goto (tgt := 32) hx hb dX7_atLeast_16 (by decide) ?_
    exact W.iret (v := r_1) hx hb hr (fun t ht hW => ⟨⟨r_1, (o4_4, o5_5, o6_6, o7_7, o8_8, o9_9, o10_10, o12_11, o13_12, o14_13, o15_14, o16_15, o17_16, o18_17, op_18, oy_19, oa_20, ob_21, ou_22, oh_23, on_24), rfl, (show (MD (FR (z.2.2.1 2) (z.2.2.1 3)) o4_4 o5_5 o6_6 o7_7 o8_8 o9_9 o10_10) from hI.2.2.2.2.2), ⟨by rw [ht]; exact hP, hDa _⟩⟩, hS.F ht⟩) hS.2.2 dX7_atLeast_32
set_option maxHeartbeats 4000000 in
set_option maxRecDepth 100000 in
theorem c_X7_kept (l : Launch) (dC : Nat → ClassId) (dI : Nat → Nat → Nat) (k : Nat → ClassId) (q : Nat → Nat) (z : ZS) (g : Int32) (d : Int32) (sz : Nat) (hI : MInv z) : Met l yX7_kept (wz yX7_kept cX7_kept 4 (some .int)) ({ frames := 7, cells := 0, slots := 0, locals := 160 }) (va_Pc [.ref (q 0), .int g, .int d] (zPre dC dI k (zTX k) (zM k q z) sz)) (va_Qi (fun (r : Int32) (u : (Nat → Int32) × (Nat → Int32) × (Nat → Int32) × (Nat → Int32) × (Nat → Int32) × (Nat → Int32) × (Nat → Int32) × Int32 × Int32 × Int32 × Int32 × (Nat → Int32) × (Nat → Int32) × (Nat → Int32) × Int32 × Int32 × Int64 × Int64 × Int64 × Int64 × Int64) => (MD (FR (z.2.2.1 2) (z.2.2.1 3)) u.1 u.2.1 u.2.2.1 u.2.2.2.1 u.2.2.2.2.1 u.2.2.2.2.2.1 u.2.2.2.2.2.2.1)) (fun u t => zPost dC dI (va_A (zM k q z) sz) (zM k q (sJ (sJ (sJ (sJ (sJ (sI (sI (sA (sA (sA (sI (sI (sI (sI (sA (sA (sA (sA (sA (sA (sA z 4 u.1) 5 u.2.1) 6 u.2.2.1) 7 u.2.2.2.1) 8 u.2.2.2.2.1) 9 u.2.2.2.2.2.1) 10 u.2.2.2.2.2.2.1) 12 u.2.2.2.2.2.2.2.1) 13 u.2.2.2.2.2.2.2.2.1) 14 u.2.2.2.2.2.2.2.2.2.1) 15 u.2.2.2.2.2.2.2.2.2.2.1) 16 u.2.2.2.2.2.2.2.2.2.2.2.1) 17 u.2.2.2.2.2.2.2.2.2.2.2.2.1) 18 u.2.2.2.2.2.2.2.2.2.2.2.2.2.1) 28 u.2.2.2.2.2.2.2.2.2.2.2.2.2.2.1) 29 u.2.2.2.2.2.2.2.2.2.2.2.2.2.2.2.1) 0 u.2.2.2.2.2.2.2.2.2.2.2.2.2.2.2.2.1) 1 u.2.2.2.2.2.2.2.2.2.2.2.2.2.2.2.2.2.1) 30 u.2.2.2.2.2.2.2.2.2.2.2.2.2.2.2.2.2.2.1) 31 u.2.2.2.2.2.2.2.2.2.2.2.2.2.2.2.2.2.2.2.1) 32 u.2.2.2.2.2.2.2.2.2.2.2.2.2.2.2.2.2.2.2.2)) t) (va_A (zM k q z) sz)) 0 0 (va_A (zM k q z) sz) := by
  refine Met.ofW (cc := cX7_kept) (maxL := 4) (ret := (some .int)) (by decide) rfl ?_
  intro p e s m args below meth c s₁ B hml hv
  obtain ⟨rfl, hsz, hP, hK, hD0⟩ := hv
  have hx := B.exec
  have hb := B.bytes
  have hr := B.returns
  have hts := atoms_spec (ws := wz yX7_kept cX7_kept 4 (some .int)) B.pre
  have htb : ∀ w ∈ zw, w.before _ s = true := fun w h => hts w (List.mem_cons_of_mem _ h)
  have hown : s.vm.findClass RX7 = some m.cls := findClass_of_methodNamed B.named
  have hlocks := B.notSynchronized
  clear hts
  subst hsz
  have hD := hD0.self (sz := s.heap.size)
  generalize hAe : va_A (zM k q z) s.heap.size = A at hD ⊢
  have hA : ∀ q : Nat, s.heap.size ≤ q → A q := fun q h => by rw [← hAe]; exact Or.inr h
  have hDa : ∀ z9 : ZS, va_D A (zM k q z9) := fun z9 => va_D_adr (w := zM k q z) rfl hD
  have hl := lv_entry ([.ref (q 0), .int g, .int d]) (n := 4) (Nat.le_of_ble_eq_true rfl)
  rw [lg_entry_eq]
  generalize (lg_sl ([.ref (q 0), .int g, .int d]) ++ List.replicate (4 - (lg_sl ([.ref (q 0), .int g, .int d])).length) Slot.unset).toArray = ls at hl ⊢
  have hl : lv_has ls 4 [(0, .ref (q 0)), (1, .int g), (2, .int d)] := hl
  refine z_start2 (A := A) (w := (zM k q z)) hP (fun H locs hP hS => ?_)
  clear hD0 hAe
  have hz0 : (0 : Int32).toInt = 0 := by decide
  have hz1 : (1 : Int32).toInt = 1 := by decide
  refine lv_iload_n hx hb dX7_kept_0 rfl (lv_at hl 1 rfl) ?_
  refine lv_iload_n hx hb dX7_kept_1 rfl (lv_at hl 2 rfl) ?_
  refine zc0_i (w := (zM k q z)) (va_runS (As := [.int g, .int d]) (rest := []) ⟨hx, hb, hml, hown, htb⟩ (c_X7_isPoll l dC dI k g d _ ) (va_cwS 2 htb (gzS wmt4_202 wmt4_203 wmt1_8 wmt4_204) rfl rfl rfl (by decide +kernel) ⟨Nat.le_of_ble_eq_true rfl, Nat.le_of_ble_eq_true rfl⟩) (zp0_S hK) rfl rfl hl.1 rfl (lv_room (Nat.le_of_ble_eq_true rfl)) dX7_kept_2 ⟨Nat.le_of_ble_eq_true rfl, Nat.le_of_ble_eq_true rfl⟩) hP hS hA (fun r_1 u_2 H locs w_3 hP hS => ?_)
  rcases w_3 with ⟨e_5, h_4⟩ | ⟨e_7, h_6⟩
  · skip
    replace e_5 : r_1 = 1 := e_5
    subst e_5
    replace h_4 : (0 ≤ g.toInt ∧ g.toInt < 4) ∧ (0 ≤ d.toInt ∧ d.toInt < 4) := h_4
    refine lv_if_ne (tgt := 11) hx hb dX7_kept_5 (by decide) (fun c_8 => ?_) (fun c_8 => ?_)
    · skip
      refine lv_aload_n hx hb dX7_kept_11 rfl (lv_at hl 0 rfl) ?_
      refine lv_iload_n hx hb dX7_kept_12 rfl (lv_at hl 1 rfl) ?_
      refine lv_iload_n hx hb dX7_kept_13 rfl (lv_at hl 2 rfl) ?_
      refine zcA_v (w := (zM k q z)) (va_runV (As := [.int g, .int d]) (rest := []) ⟨hx, hb, hml, hown, htb⟩ (c_X7_polls l dC dI k q z g d _ hI) (cwV 2 htb (gzV wmt4_205 wmt4_207 wmp3_7 wmt1_8 wmt4_208) rfl rfl rfl (by decide +kernel) ⟨Nat.le_of_ble_eq_true rfl, Nat.le_of_ble_eq_true rfl⟩) (zpA_V (ci := 7) (q0 := 0) hK hP (hDa _) rfl rfl) rfl rfl hl.1 rfl (lv_room (Nat.le_of_ble_eq_true rfl)) dX7_kept_14 ⟨Nat.le_of_ble_eq_true rfl, Nat.le_of_ble_eq_true rfl⟩) (hDa _) hS hA (fun u_10 H locs w_11 hP _ hS => ?_)
      obtain ⟨op_12, oy_13⟩ := u_10
      have hP : va_P (dC, dI) vwCl (zM k q (sI (sI z 28 op_12) 29 oy_13)) H := hP
      have h_14 := w_11
      replace h_14 : 0 ≤ oy_13.toInt ∧ oy_13.toInt ≤ op_12.toInt ∧ op_12.toInt ≤ 120 := h_14
      have hpo := h_14
      refine lv_aload_n hx hb dX7_kept_17 rfl (lv_at hl 0 rfl) ?_
      refine lv_iload_n hx hb dX7_kept_18 rfl (lv_at hl 2 rfl) ?_
      refine zcA_i (w := (zM k q (sI (sI z 28 op_12) 29 oy_13))) (va_runV (As := [.int d]) (rest := []) ⟨hx, hb, hml, hown, htb⟩ (c_X7_faultOf l dC dI k q (sI (sI z 28 op_12) 29 oy_13) d _ hI (show 0 ≤ d.toInt ∧ d.toInt < 4 by omega)) (cwV 1 htb (gzV wmt4_73 wmt4_75 wmp2_6 wmt1_8 wmt4_76) rfl rfl rfl (by decide +kernel) ⟨Nat.le_of_ble_eq_true rfl, Nat.le_of_ble_eq_true rfl⟩) (zpA_V (ci := 7) (q0 := 0) hK hP (hDa _) rfl rfl) rfl rfl hl.1 rfl (lv_room (Nat.le_of_ble_eq_true rfl)) dX7_kept_19 ⟨Nat.le_of_ble_eq_true rfl, Nat.le_of_ble_eq_true rfl⟩) (hDa _) hS hA (fun r_16 u_17 H locs w_18 hP _ hS => ?_)
      obtain ⟨o4_19, o5_20, o6_21, o7_22, o8_23, o9_24, o10_25, o12_26, o13_27, o14_28, o15_29, o16_30, o17_31, o18_32⟩ := u_17
      have hP : va_P (dC, dI) vwCl (zM k q (sA (sA (sA (sI (sI (sI (sI (sA (sA (sA (sA (sA (sA (sA (sI (sI z 28 op_12) 29 oy_13) 4 o4_19) 5 o5_20) 6 o6_21) 7 o7_22) 8 o8_23) 9 o9_24) 10 o10_25) 12 o12_26) 13 o13_27) 14 o14_28) 15 o15_29) 16 o16_30) 17 o17_31) 18 o18_32)) H := hP
      obtain ⟨h_33, h_34, h_35, h_36, h_37⟩ := w_18
      replace h_33 : MD (FR ((z.2.2.1 2)) ((z.2.2.1 3))) o4_19 o5_20 o6_21 o7_22 o8_23 o9_24 o10_25 := h_33
      replace h_34 : ¬ o4_19 d.toNatClampNeg = 0 := h_34
      replace h_35 : RK ((z.2.2.1 4)) ((z.2.2.1 5)) o4_19 o5_20 := h_35
      replace h_36 : R7 ((z.2.2.1 4)) ((z.2.2.1 6)) ((z.2.2.1 7)) ((z.2.2.1 8)) ((z.2.2.1 9)) ((z.2.2.1 10)) o6_21 o7_22 o8_23 o9_24 o10_25 := h_36
      replace h_37 : r_16 = o5_20 d.toNatClampNeg := h_37
      have hI : MInv (sA (sA (sA (sI (sI (sI (sI (sA (sA (sA (sA (sA (sA (sA (sI (sI z 28 op_12) 29 oy_13) 4 o4_19) 5 o5_20) 6 o6_21) 7 o7_22) 8 o8_23) 9 o9_24) 10 o10_25) 12 o12_26) 13 o13_27) 14 o14_28) 15 o15_29) 16 o16_30) 17 o17_31) 18 o18_32) := ⟨hI.1, hI.2.1, hI.2.2.1, hI.2.2.2.1, hI.2.2.2.2.1, h_33⟩
      have hms := MD_at h_33 (show 0 ≤ d.toInt ∧ d.toInt < 4 by omega)
      have hrd := h_34
      have hrk := h_35
      obtain ⟨hw, hff, hfF, hlk⟩ := hms.2.2.2.2.2 h_34
      have hwb := hms.1
      have hr5 : r_16.toInt = (o5_20 d.toNatClampNeg).toInt := by rw [h_37]
      refine lv_iconst (v := (-1)) hx hb dX7_kept_22 (by decide) ?_
      refine lv_icmp_ne (tgt := 43) hx hb dX7_kept_23 (by decide) (fun c_39 => ?_) (fun c_39 => ?_)
      · skip
        have hc_39 := zb_ne rfl (show ((-1) : Int32).toInt = (-1) by decide) c_39
        refine lv_bipush (v := (-3)) hx hb dX7_kept_43 (by decide) ?_
        exact W.iret (v := (-3)) hx hb hr (fun t ht hW => ⟨⟨(-3), (o4_19, o5_20, o6_21, o7_22, o8_23, o9_24, o10_25, o12_26, o13_27, o14_28, o15_29, o16_30, o17_31, o18_32, op_12, oy_13, z.2.1 0, z.2.1 1, z.2.1 30, z.2.1 31, z.2.1 32), rfl, (show (MD (FR (z.2.2.1 2) (z.2.2.1 3)) o4_19 o5_20 o6_21 o7_22 o8_23 o9_24 o10_25) from hI.2.2.2.2.2), ⟨by rw [ht]; exact hP, hDa _⟩⟩, hS.F ht⟩) hS.2.2 dX7_kept_45
      · skip
        have hc_39 := zb_eq rfl (show ((-1) : Int32).toInt = (-1) by decide) c_39
        refine lv_aload_n hx hb dX7_kept_26 rfl (lv_at hl 0 rfl) ?_
        refine lv_iload_n hx hb dX7_kept_27 rfl (lv_at hl 2 rfl) ?_
        refine zcA_l (w := (zM k q (sA (sA (sA (sI (sI (sI (sI (sA (sA (sA (sA (sA (sA (sA (sI (sI z 28 op_12) 29 oy_13) 4 o4_19) 5 o5_20) 6 o6_21) 7 o7_22) 8 o8_23) 9 o9_24) 10 o10_25) 12 o12_26) 13 o13_27) 14 o14_28) 15 o15_29) 16 o16_30) 17 o17_31) 18 o18_32))) (va_runV (As := [.int d]) (rest := []) ⟨hx, hb, hml, hown, htb⟩ (c_X7_more l dC dI k q (sA (sA (sA (sI (sI (sI (sI (sA (sA (sA (sA (sA (sA (sA (sI (sI z 28 op_12) 29 oy_13) 4 o4_19) 5 o5_20) 6 o6_21) 7 o7_22) 8 o8_23) 9 o9_24) 10 o10_25) 12 o12_26) 13 o13_27) 14 o14_28) 15 o15_29) 16 o16_30) 17 o17_31) 18 o18_32) d _ hI (by omega) hms) (cwV 1 htb (gzV wmt4_213 wmt4_215 wmp3_8 wmt1_8 wmt4_216) rfl rfl rfl (by decide +kernel) ⟨Nat.le_of_ble_eq_true rfl, Nat.le_of_ble_eq_true rfl⟩) (zpA_V (ci := 7) (q0 := 0) hK hP (hDa _) rfl rfl) rfl rfl hl.1 rfl (lv_room (Nat.le_of_ble_eq_true rfl)) dX7_kept_28 ⟨Nat.le_of_ble_eq_true rfl, Nat.le_of_ble_eq_true rfl⟩) (hDa _) hS hA (fun r_40 u_41 H locs w_42 hP _ hS => ?_)
        obtain ⟨h_43, h_44⟩ := w_42
        replace h_43 : -720000 ≤ r_40.toInt ∧ r_40.toInt ≤ 720000 := h_43
        replace h_44 : r_40.toInt = yI (o7_22 d.toNatClampNeg) (o8_23 d.toNatClampNeg) (o9_24 d.toNatClampNeg) (o10_25 d.toNatClampNeg) ((z.1 11)) 1 - yI (o7_22 d.toNatClampNeg) (o8_23 d.toNatClampNeg) (o9_24 d.toNatClampNeg) (o10_25 d.toNatClampNeg) ((z.1 11)) 0 := h_44
        refine lv_lconst (v := 0) hx hb dX7_kept_31 (by decide) ?_
        refine z_lcmp hx hb dX7_kept_32 ?_
        refine lv_if_eq (tgt := 43) hx hb dX7_kept_33 (by decide) (fun c_46 => ?_) (fun c_46 => ?_)
        · skip
          have hc_46 := zl_eq rfl (show (0 : Int64).toInt = 0 by decide) c_46
          refine lv_bipush (v := (-3)) hx hb dX7_kept_43 (by decide) ?_
          exact W.iret (v := (-3)) hx hb hr (fun t ht hW => ⟨⟨(-3), (o4_19, o5_20, o6_21, o7_22, o8_23, o9_24, o10_25, o12_26, o13_27, o14_28, o15_29, o16_30, o17_31, o18_32, op_12, oy_13, z.2.1 0, z.2.1 1, z.2.1 30, z.2.1 31, z.2.1 32), rfl, (show (MD (FR (z.2.2.1 2) (z.2.2.1 3)) o4_19 o5_20 o6_21 o7_22 o8_23 o9_24 o10_25) from hI.2.2.2.2.2), ⟨by rw [ht]; exact hP, hDa _⟩⟩, hS.F ht⟩) hS.2.2 dX7_kept_45
        · skip
          have hc_46 := zl_ne rfl (show (0 : Int64).toInt = 0 by decide) c_46
          refine lv_aload_n hx hb dX7_kept_36 rfl (lv_at hl 0 rfl) ?_
          refine va_get (D := (dC, dI)) (ci := 7) (v := .int op_12) (C := RX7) (T := TX7) (N := 42) hx hb htb inw7 hown hK.1 hP 0 rfl rfl 28 (by decide) (htb _ wmt3_195) (fun _ h9 => h9) rfl dX7_kept_37 ?_
          refine lv_if_ne (tgt := 46) hx hb dX7_kept_40 (by decide) (fun c_47 => ?_) (fun c_47 => ?_)
          · skip
            have hc_47 := zb_ne rfl (show (0 : Int32).toInt = 0 by decide) c_47
            refine lv_aload_n hx hb dX7_kept_46 rfl (lv_at hl 0 rfl) ?_
            refine lv_iload_n hx hb dX7_kept_47 rfl (lv_at hl 1 rfl) ?_
            refine lv_iload_n hx hb dX7_kept_48 rfl (lv_at hl 2 rfl) ?_
            refine lv_iconst (v := 0) hx hb dX7_kept_49 (by decide) ?_
            refine zcA_i (w := (zM k q (sA (sA (sA (sI (sI (sI (sI (sA (sA (sA (sA (sA (sA (sA (sI (sI z 28 op_12) 29 oy_13) 4 o4_19) 5 o5_20) 6 o6_21) 7 o7_22) 8 o8_23) 9 o9_24) 10 o10_25) 12 o12_26) 13 o13_27) 14 o14_28) 15 o15_29) 16 o16_30) 17 o17_31) 18 o18_32))) (va_runV (As := [.int g, .int d, .int 0]) (rest := []) ⟨hx, hb, hml, hown, htb⟩ (c_X7_refusesWays l dC dI k q (sA (sA (sA (sI (sI (sI (sI (sA (sA (sA (sA (sA (sA (sA (sI (sI z 28 op_12) 29 oy_13) 4 o4_19) 5 o5_20) 6 o6_21) 7 o7_22) 8 o8_23) 9 o9_24) 10 o10_25) 12 o12_26) 13 o13_27) 14 o14_28) 15 o15_29) 16 o16_30) 17 o17_31) 18 o18_32) g d 0 _ hI) (cwV 3 htb (gzV wmt4_225 wmt4_227 wmp3_9 wmt1_8 wmt4_228) rfl rfl rfl (by decide +kernel) ⟨Nat.le_of_ble_eq_true rfl, Nat.le_of_ble_eq_true rfl⟩) (zpA_V (ci := 7) (q0 := 0) hK hP (hDa _) rfl rfl) rfl rfl hl.1 rfl (lv_room (Nat.le_of_ble_eq_true rfl)) dX7_kept_50 ⟨Nat.le_of_ble_eq_true rfl, Nat.le_of_ble_eq_true rfl⟩) (hDa _) hS hA (fun r_48 u_49 H locs w_50 hP _ hS => ?_)
            obtain ⟨o4_51, o5_52, o6_53, o7_54, o8_55, o9_56, o10_57, o12_58, o13_59, o14_60, o15_61, o16_62, o17_63, o18_64, op_65, oy_66, oa_67, ob_68, ou_69, oh_70, on_71⟩ := u_49
            have hP : va_P (dC, dI) vwCl (zM k q (sJ (sJ (sJ (sJ (sJ (sI (sI (sA (sA (sA (sI (sI (sI (sI (sA (sA (sA (sA (sA (sA (sA z 4 o4_51) 5 o5_52) 6 o6_53) 7 o7_54) 8 o8_55) 9 o9_56) 10 o10_57) 12 o12_58) 13 o13_59) 14 o14_60) 15 o15_61) 16 o16_62) 17 o17_63) 18 o18_64) 28 op_65) 29 oy_66) 0 oa_67) 1 ob_68) 30 ou_69) 31 oh_70) 32 on_71)) H := hP
            obtain ⟨h_72, h_73, h_74⟩ := w_50
            replace h_72 : MD (FR ((z.2.2.1 2)) ((z.2.2.1 3))) o4_51 o5_52 o6_53 o7_54 o8_55 o9_56 o10_57 := h_72
            replace h_73 : r_48.toInt = 0 → ((0 ≤ g.toInt ∧ g.toInt < 4) ∧ (0 ≤ d.toInt ∧ d.toInt < 4)) ∧ (0 ≤ oy_66.toInt ∧ oy_66.toInt ≤ op_65.toInt ∧ op_65.toInt ≤ 12) ∧ (0 : Int32).toInt ≤ op_65.toInt ∧ 0 ≤ (0 : Int32).toInt ∧ (1 ≤ ou_69.toInt ∧ ou_69.toInt ≤ 24) := h_73
            rw [show (0 : Int32).toInt = 0 by decide] at h_73
            replace h_74 : ¬ r_48.toInt = 0 → r_48.toInt < 0 := h_74
            have hI : MInv (sJ (sJ (sJ (sJ (sJ (sI (sI (sA (sA (sA (sI (sI (sI (sI (sA (sA (sA (sA (sA (sA (sA z 4 o4_51) 5 o5_52) 6 o6_53) 7 o7_54) 8 o8_55) 9 o9_56) 10 o10_57) 12 o12_58) 13 o13_59) 14 o14_60) 15 o15_61) 16 o16_62) 17 o17_63) 18 o18_64) 28 op_65) 29 oy_66) 0 oa_67) 1 ob_68) 30 ou_69) 31 oh_70) 32 on_71) := ⟨hI.1, hI.2.1, hI.2.2.1, hI.2.2.2.1, hI.2.2.2.2.1, h_72⟩
            have hrw := h_73
            have hrn := h_74
            refine lv_istore_n (lv' := [(3, .int r_48), (0, .ref (q 0)), (1, .int g), (2, .int d)]) hx hb dX7_kept_53 rfl hl (by decide) rfl (fun ls hl => ?_)
            refine lv_iload_n hx hb dX7_kept_54 rfl (lv_at hl 0 rfl) ?_
            refine lv_if_eq (tgt := 62) hx hb dX7_kept_55 (by decide) (fun c_76 => ?_) (fun c_76 => ?_)
            · skip
              have hc_76 := zb_eq rfl (show (0 : Int32).toInt = 0 by decide) c_76
              obtain ⟨hr1, hr2, hr3, hr4, hr5⟩ := hrw (by omega)
              have hms := MD_at (show MD (FR (z.2.2.1 2) (z.2.2.1 3)) o4_51 o5_52 o6_53 o7_54 o8_55 o9_56 o10_57 from hI.2.2.2.2.2) (show 0 ≤ d.toInt ∧ d.toInt < 4 by omega)
              refine lv_aload_n hx hb dX7_kept_62 rfl (lv_at hl 1 rfl) ?_
              refine lv_aload_n hx hb dX7_kept_63 rfl (lv_at hl 1 rfl) ?_
              refine lv_iload_n hx hb dX7_kept_64 rfl (lv_at hl 3 rfl) ?_
              refine zcA_l (w := (zM k q (sJ (sJ (sJ (sJ (sJ (sI (sI (sA (sA (sA (sI (sI (sI (sI (sA (sA (sA (sA (sA (sA (sA z 4 o4_51) 5 o5_52) 6 o6_53) 7 o7_54) 8 o8_55) 9 o9_56) 10 o10_57) 12 o12_58) 13 o13_59) 14 o14_60) 15 o15_61) 16 o16_62) 17 o17_63) 18 o18_64) 28 op_65) 29 oy_66) 0 oa_67) 1 ob_68) 30 ou_69) 31 oh_70) 32 on_71))) (va_runV (As := [.int d]) (rest := [.ref (q 0)]) ⟨hx, hb, hml, hown, htb⟩ (c_X7_more l dC dI k q (sJ (sJ (sJ (sJ (sJ (sI (sI (sA (sA (sA (sI (sI (sI (sI (sA (sA (sA (sA (sA (sA (sA z 4 o4_51) 5 o5_52) 6 o6_53) 7 o7_54) 8 o8_55) 9 o9_56) 10 o10_57) 12 o12_58) 13 o13_59) 14 o14_60) 15 o15_61) 16 o16_62) 17 o17_63) 18 o18_64) 28 op_65) 29 oy_66) 0 oa_67) 1 ob_68) 30 ou_69) 31 oh_70) 32 on_71) d _ hI (by omega) hms) (cwV 1 htb (gzV wmt4_213 wmt4_215 wmp3_8 wmt1_8 wmt4_216) rfl rfl rfl (by decide +kernel) ⟨Nat.le_of_ble_eq_true rfl, Nat.le_of_ble_eq_true rfl⟩) (zpA_V (ci := 7) (q0 := 0) hK hP (hDa _) rfl rfl) rfl rfl hl.1 rfl (lv_room (Nat.le_of_ble_eq_true rfl)) dX7_kept_65 ⟨Nat.le_of_ble_eq_true rfl, Nat.le_of_ble_eq_true rfl⟩) (hDa _) hS hA (fun r_77 u_78 H locs w_79 hP _ hS => ?_)
              obtain ⟨h_80, h_81⟩ := w_79
              replace h_80 : -720000 ≤ r_77.toInt ∧ r_77.toInt ≤ 720000 := h_80
              replace h_81 : r_77.toInt = yI (o7_54 d.toNatClampNeg) (o8_55 d.toNatClampNeg) (o9_56 d.toNatClampNeg) (o10_57 d.toNatClampNeg) ((z.1 11)) 1 - yI (o7_54 d.toNatClampNeg) (o8_55 d.toNatClampNeg) (o9_56 d.toNatClampNeg) (o10_57 d.toNatClampNeg) ((z.1 11)) 0 := h_81
              refine lv_lconst (v := 0) hx hb dX7_kept_68 (by decide) ?_
              refine z_lcmp hx hb dX7_kept_69 ?_
              refine lv_if_le (tgt := 77) hx hb dX7_kept_70 (by decide) (fun c_83 => ?_) (fun c_83 => ?_)
              · skip
                have hc_83 := zl_le rfl (show (0 : Int64).toInt = 0 by decide) c_83
                refine lv_aload_n hx hb dX7_kept_77 rfl (lv_at hl 1 rfl) ?_
                refine va_get (D := (dC, dI)) (ci := 7) (v := .int op_65) (C := RX7) (T := TX7) (N := 42) hx hb htb inw7 hown hK.1 hP 0 rfl rfl 28 (by decide) (htb _ wmt3_195) (fun _ h9 => h9) rfl dX7_kept_78 ?_
                refine lv_iconst (v := 0) hx hb dX7_kept_81 (by decide) ?_
                refine lv_aload_n hx hb dX7_kept_82 rfl (lv_at hl 1 rfl) ?_
                refine va_get (D := (dC, dI)) (ci := 7) (v := .int oy_66) (C := RX7) (T := TX7) (N := 42) hx hb htb inw7 hown hK.1 hP 0 rfl rfl 29 (by decide) (htb _ wmt3_196) (fun _ h9 => h9) rfl dX7_kept_83 ?_
                refine zcA_i (w := (zM k q (sJ (sJ (sJ (sJ (sJ (sI (sI (sA (sA (sA (sI (sI (sI (sI (sA (sA (sA (sA (sA (sA (sA z 4 o4_51) 5 o5_52) 6 o6_53) 7 o7_54) 8 o8_55) 9 o9_56) 10 o10_57) 12 o12_58) 13 o13_59) 14 o14_60) 15 o15_61) 16 o16_62) 17 o17_63) 18 o18_64) 28 op_65) 29 oy_66) 0 oa_67) 1 ob_68) 30 ou_69) 31 oh_70) 32 on_71))) (va_runV (As := [.int op_65, .int 0, .int oy_66]) (rest := []) ⟨hx, hb, hml, hown, htb⟩ (c_X7_shareOfWays l dC dI k q (sJ (sJ (sJ (sJ (sJ (sI (sI (sA (sA (sA (sI (sI (sI (sI (sA (sA (sA (sA (sA (sA (sA z 4 o4_51) 5 o5_52) 6 o6_53) 7 o7_54) 8 o8_55) 9 o9_56) 10 o10_57) 12 o12_58) 13 o13_59) 14 o14_60) 15 o15_61) 16 o16_62) 17 o17_63) 18 o18_64) 28 op_65) 29 oy_66) 0 oa_67) 1 ob_68) 30 ou_69) 31 oh_70) 32 on_71) op_65 0 oy_66 _ (show 0 ≤ op_65.toInt ∧ op_65.toInt ≤ (op_65).toInt ∧ (op_65).toInt ≤ 12 by omega) (show 1 ≤ (ou_69).toInt ∧ (ou_69).toInt ≤ 24 by omega) (show 0 ≤ (0 : Int32).toInt ∧ (0 : Int32).toInt ≤ 120 by omega) (show oy_66.toInt ≤ 120 by omega)) (cwV 3 htb (gzV wmt5_20 wmt5_22 wmp3_13 wmt1_8 wmt5_23) rfl rfl rfl (by decide +kernel) ⟨Nat.le_of_ble_eq_true rfl, Nat.le_of_ble_eq_true rfl⟩) (zpA_V (ci := 7) (q0 := 0) hK hP (hDa _) rfl rfl) rfl rfl hl.1 rfl (lv_room (Nat.le_of_ble_eq_true rfl)) dX7_kept_86 ⟨Nat.le_of_ble_eq_true rfl, Nat.le_of_ble_eq_true rfl⟩) (hDa _) hS hA (fun r_84 u_85 H locs w_86 hP _ hS => ?_)
                exact W.iret (v := r_84) hx hb hr (fun t ht hW => ⟨⟨r_84, (o4_51, o5_52, o6_53, o7_54, o8_55, o9_56, o10_57, o12_58, o13_59, o14_60, o15_61, o16_62, o17_63, o18_64, op_65, oy_66, oa_67, ob_68, ou_69, oh_70, on_71), rfl, (show (MD (FR (z.2.2.1 2) (z.2.2.1 3)) o4_51 o5_52 o6_53 o7_54 o8_55 o9_56 o10_57) from hI.2.2.2.2.2), ⟨by rw [ht]; exact hP, hDa _⟩⟩, hS.F ht⟩) hS.2.2 dX7_kept_89
              · skip
                have hc_83 := zl_nle rfl (show (0 : Int64).toInt = 0 by decide) c_83
                refine lv_iconst (v := 0) hx hb dX7_kept_73 (by decide) ?_
                refine lv_goto (tgt := 81) hx hb dX7_kept_74 (by decide) ?_
                refine lv_iconst (v := 0) hx hb dX7_kept_81 (by decide) ?_
                refine lv_aload_n hx hb dX7_kept_82 rfl (lv_at hl 1 rfl) ?_
                refine va_get (D := (dC, dI)) (ci := 7) (v := .int oy_66) (C := RX7) (T := TX7) (N := 42) hx hb htb inw7 hown hK.1 hP 0 rfl rfl 29 (by decide) (htb _ wmt3_196) (fun _ h9 => h9) rfl dX7_kept_83 ?_
                refine zcA_i (w := (zM k q (sJ (sJ (sJ (sJ (sJ (sI (sI (sA (sA (sA (sI (sI (sI (sI (sA (sA (sA (sA (sA (sA (sA z 4 o4_51) 5 o5_52) 6 o6_53) 7 o7_54) 8 o8_55) 9 o9_56) 10 o10_57) 12 o12_58) 13 o13_59) 14 o14_60) 15 o15_61) 16 o16_62) 17 o17_63) 18 o18_64) 28 op_65) 29 oy_66) 0 oa_67) 1 ob_68) 30 ou_69) 31 oh_70) 32 on_71))) (va_runV (As := [.int 0, .int 0, .int oy_66]) (rest := []) ⟨hx, hb, hml, hown, htb⟩ (c_X7_shareOfWays l dC dI k q (sJ (sJ (sJ (sJ (sJ (sI (sI (sA (sA (sA (sI (sI (sI (sI (sA (sA (sA (sA (sA (sA (sA z 4 o4_51) 5 o5_52) 6 o6_53) 7 o7_54) 8 o8_55) 9 o9_56) 10 o10_57) 12 o12_58) 13 o13_59) 14 o14_60) 15 o15_61) 16 o16_62) 17 o17_63) 18 o18_64) 28 op_65) 29 oy_66) 0 oa_67) 1 ob_68) 30 ou_69) 31 oh_70) 32 on_71) 0 0 oy_66 _ (show 0 ≤ (0 : Int32).toInt ∧ (0 : Int32).toInt ≤ (op_65).toInt ∧ (op_65).toInt ≤ 12 by omega) (show 1 ≤ (ou_69).toInt ∧ (ou_69).toInt ≤ 24 by omega) (show 0 ≤ (0 : Int32).toInt ∧ (0 : Int32).toInt ≤ 120 by omega) (show oy_66.toInt ≤ 120 by omega)) (cwV 3 htb (gzV wmt5_20 wmt5_22 wmp3_13 wmt1_8 wmt5_23) rfl rfl rfl (by decide +kernel) ⟨Nat.le_of_ble_eq_true rfl, Nat.le_of_ble_eq_true rfl⟩) (zpA_V (ci := 7) (q0 := 0) hK hP (hDa _) rfl rfl) rfl rfl hl.1 rfl (lv_room (Nat.le_of_ble_eq_true rfl)) dX7_kept_86 ⟨Nat.le_of_ble_eq_true rfl, Nat.le_of_ble_eq_true rfl⟩) (hDa _) hS hA (fun r_87 u_88 H locs w_89 hP _ hS => ?_)
                exact W.iret (v := r_87) hx hb hr (fun t ht hW => ⟨⟨r_87, (o4_51, o5_52, o6_53, o7_54, o8_55, o9_56, o10_57, o12_58, o13_59, o14_60, o15_61, o16_62, o17_63, o18_64, op_65, oy_66, oa_67, ob_68, ou_69, oh_70, on_71), rfl, (show (MD (FR (z.2.2.1 2) (z.2.2.1 3)) o4_51 o5_52 o6_53 o7_54 o8_55 o9_56 o10_57) from hI.2.2.2.2.2), ⟨by rw [ht]; exact hP, hDa _⟩⟩, hS.F ht⟩) hS.2.2 dX7_kept_89
            · skip
              have hc_76 := zb_ne rfl (show (0 : Int32).toInt = 0 by decide) c_76
              refine lv_iload_n hx hb dX7_kept_58 rfl (lv_at hl 0 rfl) ?_
              refine lv_goto (tgt := 89) hx hb dX7_kept_59 (by decide) ?_
              exact W.iret (v := r_48) hx hb hr (fun t ht hW => ⟨⟨r_48, (o4_51, o5_52, o6_53, o7_54, o8_55, o9_56, o10_57, o12_58, o13_59, o14_60, o15_61, o16_62, o17_63, o18_64, op_65, oy_66, oa_67, ob_68, ou_69, oh_70, on_71), rfl, (show (MD (FR (z.2.2.1 2) (z.2.2.1 3)) o4_51 o5_52 o6_53 o7_54 o8_55 o9_56 o10_57) from hI.2.2.2.2.2), ⟨by rw [ht]; exact hP, hDa _⟩⟩, hS.F ht⟩) hS.2.2 dX7_kept_89
          · skip
            have hc_47 := zb_eq rfl (show (0 : Int32).toInt = 0 by decide) c_47
            refine lv_bipush (v := (-3)) hx hb dX7_kept_43 (by decide) ?_
            exact W.iret (v := (-3)) hx hb hr (fun t ht hW => ⟨⟨(-3), (o4_19, o5_20, o6_21, o7_22, o8_23, o9_24, o10_25, o12_26, o13_27, o14_28, o15_29, o16_30, o17_31, o18_32, op_12, oy_13, z.2.1 0, z.2.1 1, z.2.1 30, z.2.1 31, z.2.1 32), rfl, (show (MD (FR (z.2.2.1 2) (z.2.2.1 3)) o4_19 o5_20 o6_21 o7_22 o8_23 o9_24 o10_25) from hI.2.2.2.2.2), ⟨by rw [ht]; exact hP, hDa _⟩⟩, hS.F ht⟩) hS.2.2 dX7_kept_45
    · skip
      exact absurd c_8 (by decide)
  · skip
    replace e_7 : r_1 = 0 := e_7
    subst e_7
    replace h_6 : ¬ ((0 ≤ g.toInt ∧ g.toInt < 4) ∧ (0 ≤ d.toInt ∧ d.toInt < 4)) := h_6
    refine lv_if_ne (tgt := 11) hx hb dX7_kept_5 (by decide) (fun c_90 => ?_) (fun c_90 => ?_)
    · skip
      exact absurd c_90 (by decide)
    · skip
      refine lv_bipush (v := (-2)) hx hb dX7_kept_8 (by decide) ?_
      exact W.iret (v := (-2)) hx hb hr (fun t ht hW => ⟨⟨(-2), (z.2.2.1 4, z.2.2.1 5, z.2.2.1 6, z.2.2.1 7, z.2.2.1 8, z.2.2.1 9, z.2.2.1 10, z.1 12, z.1 13, z.1 14, z.1 15, z.2.2.1 16, z.2.2.1 17, z.2.2.1 18, z.1 28, z.1 29, z.2.1 0, z.2.1 1, z.2.1 30, z.2.1 31, z.2.1 32), rfl, (show (MD (FR (z.2.2.1 2) (z.2.2.1 3)) (z.2.2.1 4) (z.2.2.1 5) (z.2.2.1 6) (z.2.2.1 7) (z.2.2.1 8) (z.2.2.1 9) (z.2.2.1 10)) from hI.2.2.2.2.2), ⟨by rw [ht]; exact hP, hDa _⟩⟩, hS.F ht⟩) hS.2.2 dX7_kept_10
