set_option maxHeartbeats 4000000 in
set_option maxRecDepth 100000 in
theorem c_X6_itemFinding (l : Launch) (dC : Nat → ClassId) (dI : Nat → Nat → Nat) (k : Nat → ClassId) (a : Nat → Nat) (z : ZS) (ty : Int32) (i : Int32) (sz : Nat) (hI : XR (z.1 1)) : Met l yX6_itemFinding (wz yX6_itemFinding cX6_itemFinding 3 (some .int)) ({ frames := 1, cells := 0, slots := 0, locals := 22 }) (va_Pc [.ref (a 0), .int ty, .int i] (zPre dC dI k (zTX k) (zS k a z) sz)) (va_Qi (fun (r : Int32) (u : Unit) => (r = 1 ∧ ((z.1 0).toInt = -1)) ∨ (r = 3 ∧ (¬ (z.1 0).toInt = -1) ∧ (¬ (z.1 0).toInt = ty.toInt)) ∨ (r = 2 ∧ (¬ (z.1 0).toInt = -1) ∧ ((z.1 0).toInt = ty.toInt) ∧ (¬ (0 ≤ i.toInt ∧ i.toInt < (z.1 1).toInt))) ∨ (r = 0 ∧ (¬ (z.1 0).toInt = -1) ∧ ((z.1 0).toInt = ty.toInt) ∧ (0 ≤ i.toInt ∧ i.toInt < (z.1 1).toInt))) (fun u t => zPost dC dI (va_A (zS k a z) sz) (zS k a z) t) (va_A (zS k a z) sz)) 0 0 (va_A (zS k a z) sz) := by
  refine Met.ofW (cc := cX6_itemFinding) (maxL := 3) (ret := (some .int)) (by decide) rfl ?_
  intro p e s m args below meth c s₁ B hml hv
  obtain ⟨rfl, hsz, hP, hK, hD0⟩ := hv
  have hx := B.exec
  have hb := B.bytes
  have hr := B.returns
  have hts := atoms_spec (ws := wz yX6_itemFinding cX6_itemFinding 3 (some .int)) B.pre
  have htb : ∀ w ∈ zw, w.before _ s = true := fun w h => hts w (List.mem_cons_of_mem _ h)
  have hown : s.vm.findClass RX6 = some m.cls := findClass_of_methodNamed B.named
  have hlocks := B.notSynchronized
  clear hts
  subst hsz
  have hD := hD0.self (sz := s.heap.size)
  generalize hAe : va_A (zS k a z) s.heap.size = A at hD ⊢
  have hA : ∀ q : Nat, s.heap.size ≤ q → A q := fun q h => by rw [← hAe]; exact Or.inr h
  have hDa : ∀ z9 : ZS, va_D A (zS k a z9) := fun z9 => va_D_adr (w := zS k a z) rfl hD
  have hl := lv_entry ([.ref (a 0), .int ty, .int i]) (n := 3) (Nat.le_of_ble_eq_true rfl)
  rw [lg_entry_eq]
  generalize (lg_sl ([.ref (a 0), .int ty, .int i]) ++ List.replicate (3 - (lg_sl ([.ref (a 0), .int ty, .int i])).length) Slot.unset).toArray = ls at hl ⊢
  have hl : lv_has ls 3 [(0, .ref (a 0)), (1, .int ty), (2, .int i)] := hl
  refine z_start2 (A := A) (w := (zS k a z)) hP (fun H locs hP hS => ?_)
  clear hD0 hAe
  have hI2 := hI; unfold XR at hI2
  refine lv_aload_n hx hb dX6_itemFinding_0 rfl (lv_at hl 0 rfl) ?_
  refine zcA_i (w := (zS k a z)) (va_runV (As := []) (rest := []) ⟨hx, hb, hml, hown, htb⟩ (c_X5_isLost l dC dI k a z _ ) (cwV 0 htb (gzV wmt2_98 wmt2_99 wmt2_100 wmt1_7 wmt2_101) rfl rfl rfl (by decide +kernel) ⟨Nat.le_of_ble_eq_true rfl, Nat.le_of_ble_eq_true rfl⟩) (zpA_V (ci := 5) (q0 := 0) hK hP (hDa _) rfl rfl) rfl rfl hl.1 rfl (lv_room (Nat.le_of_ble_eq_true rfl)) dX6_itemFinding_1 ⟨Nat.le_of_ble_eq_true rfl, Nat.le_of_ble_eq_true rfl⟩) (hDa _) hS hA (fun r_1 u_2 H locs w_3 hP _ hS => ?_)
  rcases w_3 with ⟨e_5, h_4⟩ | ⟨e_7, h_6⟩
  · skip
    replace e_5 : r_1 = 1 := e_5
    subst e_5
    replace h_4 : ((z.1 0)).toInt = -1 := h_4
    refine lv_if_eq (tgt := 9) hx hb dX6_itemFinding_4 (by decide) (fun c_8 => ?_) (fun c_8 => ?_)
    · skip
      exact absurd c_8 (by decide)
    · skip
      refine lv_iconst (v := 1) hx hb dX6_itemFinding_7 (by decide) ?_
      exact W.iret (v := 1) hx hb hr (fun t ht hW => ⟨⟨1, (), rfl, Or.inl (⟨rfl, (by first | assumption | omega | decide | rfl)⟩), ⟨by rw [ht]; exact hP, hDa _⟩⟩, hS.F ht⟩) hS.2.2 dX6_itemFinding_8
  · skip
    replace e_7 : r_1 = 0 := e_7
    subst e_7
    replace h_6 : ¬ ((z.1 0)).toInt = -1 := h_6
    refine lv_if_eq (tgt := 9) hx hb dX6_itemFinding_4 (by decide) (fun c_9 => ?_) (fun c_9 => ?_)
    · skip
      refine lv_aload_n hx hb dX6_itemFinding_9 rfl (lv_at hl 0 rfl) ?_
      refine va_get (D := (dC, dI)) (ci := 5) (v := .int (z.1 0)) (C := RX5) (T := TX5) (N := 3) hx hb htb inw5 hown hK.1 hP 0 rfl rfl 1 (by decide) (htb _ wmt1_160) (fun _ h9 => h9) rfl dX6_itemFinding_10 ?_
      refine lv_topi (fun x_10 ex_10 => ?_)
      have hx_10 : x_10.toInt = (z.1 0).toInt := by rw [ex_10]
      refine lv_iload_n hx hb dX6_itemFinding_13 rfl (lv_at hl 1 rfl) ?_
      refine lv_icmp_eq (tgt := 19) hx hb dX6_itemFinding_14 (by decide) (fun c_11 => ?_) (fun c_11 => ?_)
      · skip
        have hc_11 := zb_eq rfl rfl c_11
        refine lv_aload_n hx hb dX6_itemFinding_19 rfl (lv_at hl 0 rfl) ?_
        refine lv_iload_n hx hb dX6_itemFinding_20 rfl (lv_at hl 2 rfl) ?_
        refine lv_iconst (v := 1) hx hb dX6_itemFinding_21 (by decide) ?_
        refine zcA_i (w := (zS k a z)) (va_runV (As := [.int i, .int 1]) (rest := []) ⟨hx, hb, hml, hown, htb⟩ (c_X5_hasItems l dC dI k a z i 1 _ hI) (cwV 2 htb (gzV wmt3_112 wmt3_113 wmt3_114 wmt1_7 wmt3_115) rfl rfl rfl (by decide +kernel) ⟨Nat.le_of_ble_eq_true rfl, Nat.le_of_ble_eq_true rfl⟩) (zpA_V (ci := 5) (q0 := 0) hK hP (hDa _) rfl rfl) rfl rfl hl.1 rfl (lv_room (Nat.le_of_ble_eq_true rfl)) dX6_itemFinding_22 ⟨Nat.le_of_ble_eq_true rfl, Nat.le_of_ble_eq_true rfl⟩) (hDa _) hS hA (fun r_12 u_13 H locs w_14 hP _ hS => ?_)
        rcases w_14 with ⟨e_16, h_15⟩ | ⟨e_18, h_17⟩
        · skip
          replace e_16 : r_12 = 1 := e_16
          subst e_16
          replace h_15 : 0 ≤ i.toInt ∧ 0 ≤ (1 : Int32).toInt ∧ (1 : Int32).toInt ≤ ((z.1 1)).toInt ∧ i.toInt ≤ ((z.1 1)).toInt - (1 : Int32).toInt := h_15
          rw [show (1 : Int32).toInt = 1 by decide] at h_15
          have h1i : (1 : Int32).toInt = 1 := by decide
          refine lv_if_eq (tgt := 32) hx hb dX6_itemFinding_25 (by decide) (fun c_19 => ?_) (fun c_19 => ?_)
          · skip
            exact absurd c_19 (by decide)
          · skip
            refine lv_iconst (v := 0) hx hb dX6_itemFinding_28 (by decide) ?_
            refine lv_goto (tgt := 33) hx hb dX6_itemFinding_29 (by decide) ?_
            exact W.iret (v := 0) hx hb hr (fun t ht hW => ⟨⟨0, (), rfl, Or.inr (Or.inr (Or.inr (⟨rfl, (by first | assumption | omega | decide | rfl), (by first | assumption | omega | decide | rfl), (by first | assumption | omega | decide | rfl)⟩))), ⟨by rw [ht]; exact hP, hDa _⟩⟩, hS.F ht⟩) hS.2.2 dX6_itemFinding_33
        · skip
          replace e_18 : r_12 = 0 := e_18
          subst e_18
          replace h_17 : ¬ (0 ≤ i.toInt ∧ 0 ≤ (1 : Int32).toInt ∧ (1 : Int32).toInt ≤ ((z.1 1)).toInt ∧ i.toInt ≤ ((z.1 1)).toInt - (1 : Int32).toInt) := h_17
          rw [show (1 : Int32).toInt = 1 by decide] at h_17
          have h1i : (1 : Int32).toInt = 1 := by decide
          refine lv_if_eq (tgt := 32) hx hb dX6_itemFinding_25 (by decide) (fun c_20 => ?_) (fun c_20 => ?_)
          · skip
            refine lv_iconst (v := 2) hx hb dX6_itemFinding_32 (by decide) ?_
            exact W.iret (v := 2) hx hb hr (fun t ht hW => ⟨⟨2, (), rfl, Or.inr (Or.inr (Or.inl (⟨rfl, (by first | assumption | omega | decide | rfl), (by first | assumption | omega | decide | rfl), (by first | assumption | omega | decide | rfl)⟩))), ⟨by rw [ht]; exact hP, hDa _⟩⟩, hS.F ht⟩) hS.2.2 dX6_itemFinding_33
          · skip
            exact absurd (by decide) c_20
      · skip
        have hc_11 := zb_ne rfl rfl c_11
        refine lv_iconst (v := 3) hx hb dX6_itemFinding_17 (by decide) ?_
        exact W.iret (v := 3) hx hb hr (fun t ht hW => ⟨⟨3, (), rfl, Or.inr (Or.inl (⟨rfl, (by first | assumption | omega | decide | rfl), (by first | assumption | omega | decide | rfl)⟩)), ⟨by rw [ht]; exact hP, hDa _⟩⟩, hS.F ht⟩) hS.2.2 dX6_itemFinding_18
    · skip
      exact absurd (by decide) c_9
set_option maxHeartbeats 4000000 in
set_option maxRecDepth 100000 in
theorem c_X6_peopleCounted (l : Launch) (dC : Nat → ClassId) (dI : Nat → Nat → Nat) (k : Nat → ClassId) (a : Nat → Nat) (z : ZS) (sz : Nat)  : Met l yX6_peopleCounted (wz yX6_peopleCounted cX6_peopleCounted 5 (some .long)) ({ frames := 0, cells := 0, slots := 0, locals := 0 }) (va_Pc [.ref (a 0)] (zPre dC dI k (zTX k) (zS k a z) sz)) (va_Ql (fun (r : Int64) (u : Unit) => True) (fun u t => zPost dC dI (va_A (zS k a z) sz) (zS k a z) t) (va_A (zS k a z) sz)) 0 0 (va_A (zS k a z) sz) := by
  refine Met.ofW (cc := cX6_peopleCounted) (maxL := 5) (ret := (some .long)) (by decide) rfl ?_
  intro p e s m args below meth c s₁ B hml hv
  obtain ⟨rfl, hsz, hP, hK, hD0⟩ := hv
  have hx := B.exec
  have hb := B.bytes
  have hr := B.returns
  have hts := atoms_spec (ws := wz yX6_peopleCounted cX6_peopleCounted 5 (some .long)) B.pre
  have htb : ∀ w ∈ zw, w.before _ s = true := fun w h => hts w (List.mem_cons_of_mem _ h)
  have hown : s.vm.findClass RX6 = some m.cls := findClass_of_methodNamed B.named
  have hlocks := B.notSynchronized
  clear hts
  subst hsz
  have hD := hD0.self (sz := s.heap.size)
  generalize hAe : va_A (zS k a z) s.heap.size = A at hD ⊢
  have hA : ∀ q : Nat, s.heap.size ≤ q → A q := fun q h => by rw [← hAe]; exact Or.inr h
  have hDa : ∀ z9 : ZS, va_D A (zS k a z9) := fun z9 => va_D_adr (w := zS k a z) rfl hD
  have hl := lv_entry ([.ref (a 0)]) (n := 5) (Nat.le_of_ble_eq_true rfl)
  rw [lg_entry_eq]
  generalize (lg_sl ([.ref (a 0)]) ++ List.replicate (5 - (lg_sl ([.ref (a 0)])).length) Slot.unset).toArray = ls at hl ⊢
  have hl : lv_has ls 5 [(0, .ref (a 0))] := hl
  refine z_start2 (A := A) (w := (zS k a z)) hP (fun H locs hP hS => ?_)
  clear hD0 hAe
  refine lv_lconst (v := 0) hx hb dX6_peopleCounted_0 (by decide) ?_
  refine lv_lstore_n (lv' := [(1, .long 0), (0, .ref (a 0))]) hx hb dX6_peopleCounted_1 rfl hl (by decide) rfl (fun ls hl => ?_)
  refine lv_iconst (v := 0) hx hb dX6_peopleCounted_2 (by decide) ?_
  refine lv_istore_n (lv' := [(3, .int 0), (1, .long 0), (0, .ref (a 0))]) hx hb dX6_peopleCounted_3 rfl hl (by decide) rfl (fun ls hl => ?_)
  obtain ⟨sm, esm⟩ : ∃ x : Int64, 0 = x := ⟨_, rfl⟩
  obtain ⟨i, ei⟩ : ∃ x : Int32, 0 = x := ⟨_, rfl⟩
  have hv4 : (0 ≤ i.toInt ∧ i.toInt ≤ 4) := by subst esm ei; exact (by decide)
  replace hl : lv_has ls 5 [(3, .int i), (1, .long sm), (0, .ref (a 0))] := by subst esm ei; exact hl
  clear esm ei
  obtain ⟨mm4, hm4⟩ : ∃ mm : Nat, mm = (4 - i.toInt).toNat := ⟨_, rfl⟩
  refine z_cut2 hP hS hl ?_
  clear hl hP
  intro H locs ls hP hS hl
  induction mm4 using Nat.strongRecOn generalizing sm i H locs ls with
  | _ mm4 ih4 =>
    have hi := hv4
    refine lv_iload_n hx hb dX6_peopleCounted_4 rfl (lv_at hl 0 rfl) ?_
    refine lv_iconst (v := 4) hx hb dX6_peopleCounted_5 (by decide) ?_
    refine lv_icmp_ge (tgt := 46) hx hb dX6_peopleCounted_6 (by decide) (fun c_1 => ?_) (fun c_1 => ?_)
    · skip
      have hc_1 := zb_le (show (4 : Int32).toInt = 4 by decide) rfl c_1
      refine lv_lload_n hx hb dX6_peopleCounted_46 rfl (lv_at hl 1 rfl) ?_
      exact W.lret (v := sm) hx hb hr (fun t ht hW => ⟨⟨sm, (), rfl, trivial, ⟨by rw [ht]; exact hP, hDa _⟩⟩, hS.F ht⟩) hS.2.2 dX6_peopleCounted_47
    · skip
      have hc_1 := zb_nle (show (4 : Int32).toInt = 4 by decide) rfl c_1
      refine lv_aload_n hx hb dX6_peopleCounted_9 rfl (lv_at hl 2 rfl) ?_
      refine va_get (D := (dC, dI)) (ci := 5) (v := .ref (a 1)) (C := RX5) (T := TX5) (N := 3) hx hb htb inw5 hown hK.1 hP 0 rfl rfl 0 (by decide) (htb _ wmt1_158) (fun _ h9 => h9) rfl dX6_peopleCounted_10 ?_
      refine lv_iload_n hx hb dX6_peopleCounted_13 rfl (lv_at hl 0 rfl) ?_
      refine va_iald (D := (dC, dI)) hx hb hK.1 hP 1 0 rfl rfl (z_in (by omega)) dX6_peopleCounted_14 ?_
      refine lv_topi (fun x_2 ex_2 => ?_)
      refine lv_istore (lv' := [(4, .int x_2), (3, .int i), (1, .long sm), (0, .ref (a 0))]) hx hb dX6_peopleCounted_15 hl (by decide) rfl (fun ls hl => ?_)
      refine lv_iload hx hb dX6_peopleCounted_17 (lv_at hl 0 rfl) ?_
      refine lv_if_lt (tgt := 30) hx hb dX6_peopleCounted_19 (by decide) (fun c_3 => ?_) (fun c_3 => ?_)
      · skip
        have hc_3 := zb_lt rfl (show (0 : Int32).toInt = 0 by decide) c_3
        refine lv_ldc2 (v := (-1)) hx hb hown (htb _ wmt3_72) dX6_peopleCounted_30 ?_
        exact W.lret (v := (-1)) hx hb hr (fun t ht hW => ⟨⟨(-1), (), rfl, trivial, ⟨by rw [ht]; exact hP, hDa _⟩⟩, hS.F ht⟩) hS.2.2 dX6_peopleCounted_33
      · skip
        have hc_3 := zb_nlt rfl (show (0 : Int32).toInt = 0 by decide) c_3
        refine lv_iload hx hb dX6_peopleCounted_22 (lv_at hl 0 rfl) ?_
        refine lv_sipush (v := 999) hx hb dX6_peopleCounted_24 (by decide) ?_
        refine lv_icmp_le (tgt := 34) hx hb dX6_peopleCounted_27 (by decide) (fun c_4 => ?_) (fun c_4 => ?_)
        · skip
          have hc_4 := zb_le rfl (show (999 : Int32).toInt = 999 by decide) c_4
          refine lv_lload_n hx hb dX6_peopleCounted_34 rfl (lv_at hl 2 rfl) ?_
          refine lv_iload hx hb dX6_peopleCounted_35 (lv_at hl 0 rfl) ?_
          refine lv_i2l (v := x_2.toInt64) hx hb dX6_peopleCounted_37 rfl ?_
          refine lv_topl (fun x_5 ex_5 => ?_)
          have hx_5 : x_5.toInt = x_2.toInt := by rw [ex_5]; exact Jvm.Kit.i64_of_i32 _
          refine lv_ladd hx hb dX6_peopleCounted_38 ?_
          refine lv_topl (fun x_6 ex_6 => ?_)
          refine lv_lstore_n (lv' := [(1, .long x_6), (4, .int x_2), (3, .int i), (0, .ref (a 0))]) hx hb dX6_peopleCounted_39 rfl hl (by decide) rfl (fun ls hl => ?_)
          obtain ⟨x_7, ex_7⟩ : ∃ y : Int32, y = i + 1 := ⟨_, rfl⟩
          have hx_7 : x_7.toInt = i.toInt + 1 := z_add ex_7 rfl (show (1 : Int32).toInt = 1 by decide) (by omega)
          refine lv_iinc (v := x_7) (lv' := [(3, .int x_7), (1, .long x_6), (4, .int x_2), (0, .ref (a 0))]) hx hb dX6_peopleCounted_40 hl (k := 2) rfl (by rw [ex_7]; rfl) (by decide) rfl (fun ls hl => ?_)
          refine lv_goto (tgt := 4) hx hb dX6_peopleCounted_43 (by decide) ?_
          exact ih4 ((4 - x_7.toInt).toNat) (by omega) x_6 x_7 (show 0 ≤ x_7.toInt ∧ x_7.toInt ≤ 4 by omega) rfl H locs ls hP hS (lv_sub hl [0, 1, 3] rfl)
        · skip
          have hc_4 := zb_nle rfl (show (999 : Int32).toInt = 999 by decide) c_4
          refine lv_ldc2 (v := (-1)) hx hb hown (htb _ wmt3_72) dX6_peopleCounted_30 ?_
          exact W.lret (v := (-1)) hx hb hr (fun t ht hW => ⟨⟨(-1), (), rfl, trivial, ⟨by rw [ht]; exact hP, hDa _⟩⟩, hS.F ht⟩) hS.2.2 dX6_peopleCounted_33
set_option maxHeartbeats 4000000 in
set_option maxRecDepth 100000 in
theorem c_X6_part (l : Launch) (dC : Nat → ClassId) (dI : Nat → Nat → Nat) (k : Nat → ClassId) (q : Nat → Nat) (z : ZS) (i0 : Nat) (d1 : Nat) (d2 : Nat) (wh : Int32) (pp : Int64) (sz : Nat) (hI : XInv z) (hi0 : i0 < 4) (hd1 : d1 < 4) (hd2 : d2 < 4) : Met l yX6_part (wz yX6_part cX6_part 14 none) ({ frames := 3, cells := 0, slots := 0, locals := 69 }) (va_Pc [.ref (q 0), .ref (qS q i0 0), .ref (qD q d1 0), .ref (qD q d2 0), .int wh, .long pp] (zPre dC dI k (zTX k) (zX k q z) sz)) (va_Qv (fun (u : ZS) => (XInv u) ∧ (trX u = trX z)) (fun u t => zPost dC dI (va_A (zX k q z) sz) (zX k q u) t) (va_A (zX k q z) sz)) 0 0 (va_A (zX k q z) sz) := by
  refine Met.ofW (cc := cX6_part) (maxL := 14) (ret := none) (by decide) rfl ?_
  intro p e s m args below meth c s₁ B hml hv
  obtain ⟨rfl, hsz, hP, hK, hD0⟩ := hv
  have hx := B.exec
  have hb := B.bytes
  have hr := B.returns
  have hts := atoms_spec (ws := wz yX6_part cX6_part 14 none) B.pre
  have htb : ∀ w ∈ zw, w.before _ s = true := fun w h => hts w (List.mem_cons_of_mem _ h)
  have hown : s.vm.findClass RX6 = some m.cls := findClass_of_methodNamed B.named
  have hlocks := B.notSynchronized
  clear hts
  subst hsz
  have hD := hD0.self (sz := s.heap.size)
  generalize hAe : va_A (zX k q z) s.heap.size = A at hD ⊢
  have hA : ∀ q : Nat, s.heap.size ≤ q → A q := fun q h => by rw [← hAe]; exact Or.inr h
  have hDa : ∀ z9 : ZS, va_D A (zX k q z9) := fun z9 => va_D_adr (w := zX k q z) rfl hD
  have hl := lv_entry ([.ref (q 0), .ref (qS q i0 0), .ref (qD q d1 0), .ref (qD q d2 0), .int wh, .long pp]) (n := 14) (Nat.le_of_ble_eq_true rfl)
  rw [lg_entry_eq]
  generalize (lg_sl ([.ref (q 0), .ref (qS q i0 0), .ref (qD q d1 0), .ref (qD q d2 0), .int wh, .long pp]) ++ List.replicate (14 - (lg_sl ([.ref (q 0), .ref (qS q i0 0), .ref (qD q d1 0), .ref (qD q d2 0), .int wh, .long pp])).length) Slot.unset).toArray = ls at hl ⊢
  have hl : lv_has ls 14 [(0, .ref (q 0)), (1, .ref (qS q i0 0)), (2, .ref (qD q d1 0)), (3, .ref (qD q d2 0)), (4, .int wh), (5, .long pp)] := hl
  refine z_start2 (A := A) (w := (zX k q z)) hP (fun H locs hP hS => ?_)
  clear hD0 hAe
  have hT : trX z = trX z := rfl
  refine z_join2 (dC := dC) (dI := dI) (A := A) (H0 := s.heap) (nL := 14) (α := Int32 × Int32) (Inv := fun x => True) (lv2 := fun x => [(0, .ref (q 0)), (1, .ref (qS q i0 0)), (2, .ref (qD q d1 0)), (3, .ref (qD q d2 0)), (4, .int wh), (5, .long pp), (7, .int x.1), (8, .int x.2)]) (st2 := fun _ => []) (w2 := fun x => (zX k q z)) 36 (fun x H locs ls hinv hP hS hl => ?_) (fun hj36 => ?_)
  · skip
    obtain ⟨h1, h2⟩ := x
    have hP : va_P (dC, dI) vwCl (zX k q z) H := hP
    have hl : lv_has ls 14 [(0, .ref (q 0)), (1, .ref (qS q i0 0)), (2, .ref (qD q d1 0)), (3, .ref (qD q d2 0)), (4, .int wh), (5, .long pp), (7, .int h1), (8, .int h2)] := hl
    refine lv_lconst (v := 0) hx hb dX6_part_36 (by decide) ?_
    refine lv_lstore (lv' := [(9, .long 0), (0, .ref (q 0)), (1, .ref (qS q i0 0)), (2, .ref (qD q d1 0)), (3, .ref (qD q d2 0)), (4, .int wh), (5, .long pp), (7, .int h1), (8, .int h2)]) hx hb dX6_part_37 hl (by decide) rfl (fun ls hl => ?_)
    refine lv_iconst (v := 0) hx hb dX6_part_39 (by decide) ?_
    refine lv_istore (lv' := [(11, .int 0), (9, .long 0), (0, .ref (q 0)), (1, .ref (qS q i0 0)), (2, .ref (qD q d1 0)), (3, .ref (qD q d2 0)), (4, .int wh), (5, .long pp), (7, .int h1), (8, .int h2)]) hx hb dX6_part_40 hl (by decide) rfl (fun ls hl => ?_)
    obtain ⟨ab, eab⟩ : ∃ x : Int64, 0 = x := ⟨_, rfl⟩
    obtain ⟨i, ei⟩ : ∃ x : Int32, 0 = x := ⟨_, rfl⟩
    have hv42 : (0 ≤ i.toInt ∧ i.toInt ≤ 4) := by subst eab ei; exact (by decide)
    replace hl : lv_has ls 14 [(11, .int i), (9, .long ab), (0, .ref (q 0)), (1, .ref (qS q i0 0)), (2, .ref (qD q d1 0)), (3, .ref (qD q d2 0)), (4, .int wh), (5, .long pp), (7, .int h1), (8, .int h2)] := by subst eab ei; exact hl
    clear eab ei
    obtain ⟨mm42, hm42⟩ : ∃ mm : Nat, mm = (4 - i.toInt).toNat := ⟨_, rfl⟩
    refine z_cut2 hP hS hl ?_
    clear hl hP
    intro H locs ls hP hS hl
    induction mm42 using Nat.strongRecOn generalizing ab i H locs ls with
    | _ mm42 ih42 =>
      have hi := hv42
      refine lv_iload hx hb dX6_part_42 (lv_at hl 0 rfl) ?_
      refine lv_iconst (v := 4) hx hb dX6_part_44 (by decide) ?_
      refine lv_icmp_ge (tgt := 112) hx hb dX6_part_45 (by decide) (fun c_1 => ?_) (fun c_1 => ?_)
      · skip
        have hc_1 := zb_le (show (4 : Int32).toInt = 4 by decide) rfl c_1
        refine lv_aload_n hx hb dX6_part_112 rfl (lv_at hl 2 rfl) ?_
        refine va_get (D := (dC, dI)) (ci := 6) (v := .ref (q 15)) (C := RX6) (T := TX6) (N := 12) hx hb htb inw6 hown hK.1 hP 0 rfl rfl 6 (by decide) (htb _ wmt1_176) (fun _ h9 => h9) rfl dX6_part_113 ?_
        refine lv_lload hx hb dX6_part_116 (lv_at hl 1 rfl) ?_
        refine lv_lload hx hb dX6_part_118 (lv_at hl 7 rfl) ?_
        refine lv_aload_n hx hb dX6_part_120 rfl (lv_at hl 4 rfl) ?_
        refine zcS_l (w := (zX k q z)) (wc := (zD k (qD q d1) (xD z d1))) (va_runV (As := []) (rest := [.long pp, .long ab, .ref (q 15)]) ⟨hx, hb, hml, hown, htb⟩ (c_X1_difference l dC dI k (qD q d1) (xD z d1) _ ) (cwV 0 htb (gzV wmt2_158 wmt2_159 wmt2_160 wmt1_6 wmt2_161) rfl rfl rfl (by decide +kernel) ⟨Nat.le_of_ble_eq_true rfl, Nat.le_of_ble_eq_true rfl⟩) (zp_V (ci := 1) (q0 := (16 + 3 * d1)) hK hP (hDa _) [16 + 3 * d1, 17 + 3 * d1, 18 + 3 * d1] (zX_DC hd1) (zX_ndD hd1) rfl (zX_D0 hd1)) rfl rfl hl.1 rfl (lv_room (Nat.le_of_ble_eq_true rfl)) dX6_part_121 ⟨Nat.le_of_ble_eq_true rfl, Nat.le_of_ble_eq_true rfl⟩) hP (hDa _) hS hA [16 + 3 * d1, 17 + 3 * d1, 18 + 3 * d1] (zX_DC hd1) (fun _ => rfl) (fun r_2 u_3 H locs w_4 hP _ hS => ?_)
        have hP : va_P (dC, dI) vwCl (zX k q z) H := (zX_Dkeep hd1) ▸ hP
        refine lv_lmul hx hb dX6_part_124 ?_
        refine lv_topl (fun x_5 ex_5 => ?_)
        refine lv_aload_n hx hb dX6_part_125 rfl (lv_at hl 5 rfl) ?_
        refine zcS_l (w := (zX k q z)) (wc := (zD k (qD q d2) (xD z d2))) (va_runV (As := []) (rest := [.long x_5, .long ab, .ref (q 15)]) ⟨hx, hb, hml, hown, htb⟩ (c_X1_difference l dC dI k (qD q d2) (xD z d2) _ ) (cwV 0 htb (gzV wmt2_158 wmt2_159 wmt2_160 wmt1_6 wmt2_161) rfl rfl rfl (by decide +kernel) ⟨Nat.le_of_ble_eq_true rfl, Nat.le_of_ble_eq_true rfl⟩) (zp_V (ci := 1) (q0 := (16 + 3 * d2)) hK hP (hDa _) [16 + 3 * d2, 17 + 3 * d2, 18 + 3 * d2] (zX_DC hd2) (zX_ndD hd2) rfl (zX_D0 hd2)) rfl rfl hl.1 rfl (lv_room (Nat.le_of_ble_eq_true rfl)) dX6_part_126 ⟨Nat.le_of_ble_eq_true rfl, Nat.le_of_ble_eq_true rfl⟩) hP (hDa _) hS hA [16 + 3 * d2, 17 + 3 * d2, 18 + 3 * d2] (zX_DC hd2) (fun _ => rfl) (fun r_6 u_7 H locs w_8 hP _ hS => ?_)
        have hP : va_P (dC, dI) vwCl (zX k q z) H := (zX_Dkeep hd2) ▸ hP
        refine lv_lmul hx hb dX6_part_129 ?_
        refine lv_topl (fun x_9 ex_9 => ?_)
        refine zcS_v (w := (zX k q z)) (wc := (zF k (qof q 15) (xF z))) (va_runV (As := [.long ab, .long x_9]) (rest := []) ⟨hx, hb, hml, hown, htb⟩ (c_X2_become l dC dI k (qof q 15) (xF z) ab x_9 _ ) (cwV 2 htb (gzV wmt2_56 wmt2_57 wmt2_58 wmt1_5 wmt2_59) rfl rfl rfl (by decide +kernel) ⟨Nat.le_of_ble_eq_true rfl, Nat.le_of_ble_eq_true rfl⟩) (zp_V (ci := 2) (q0 := 15) hK hP (hDa _) [15] rfl (by decide) rfl rfl) rfl rfl hl.1 rfl (lv_room (Nat.le_of_ble_eq_true rfl)) dX6_part_130 ⟨Nat.le_of_ble_eq_true rfl, Nat.le_of_ble_eq_true rfl⟩) hP (hDa _) hS hA [15] rfl (fun _ => rfl) (fun u_11 H locs w_12 hP _ hS => ?_)
        have hP : va_P (dC, dI) vwCl (zX k q (sJ (sJ z 0 (u_11.2.1 0)) 1 (u_11.2.1 1))) H := hP
        exact W.vret hx hb hr (fun t ht hW => ⟨⟨(sJ (sJ z 0 (u_11.2.1 0)) 1 (u_11.2.1 1)), rfl, ⟨hI, hT⟩, ⟨by rw [ht]; exact hP, hDa _⟩⟩, hS.F ht⟩) hS.2.2 dX6_part_133
      · skip
        have hc_1 := zb_nle (show (4 : Int32).toInt = 4 by decide) rfl c_1
        refine lv_iload hx hb dX6_part_48 (lv_at hl 0 rfl) ?_
        refine lv_iconst (v := 2) hx hb dX6_part_50 (by decide) ?_
        refine lv_icmp_ge (tgt := 58) hx hb dX6_part_51 (by decide) (fun c_13 => ?_) (fun c_13 => ?_)
        · skip
          have hc_13 := zb_le (show (2 : Int32).toInt = 2 by decide) rfl c_13
          refine lv_iconst (v := 0) hx hb dX6_part_58 (by decide) ?_
          refine lv_istore (lv' := [(12, .int 0), (11, .int i), (9, .long ab), (0, .ref (q 0)), (1, .ref (qS q i0 0)), (2, .ref (qD q d1 0)), (3, .ref (qD q d2 0)), (4, .int wh), (5, .long pp), (7, .int h1), (8, .int h2)]) hx hb dX6_part_59 hl (by decide) rfl (fun ls hl => ?_)
          refine lv_iload hx hb dX6_part_61 (lv_at hl 1 rfl) ?_
          refine lv_iconst (v := 2) hx hb dX6_part_63 (by decide) ?_
          refine lv_irem hx hb dX6_part_64 (by decide) ?_
          refine lv_topi (fun x_14 ex_14 => ?_)
          refine lv_if_ne (tgt := 72) hx hb dX6_part_65 (by decide) (fun c_15 => ?_) (fun c_15 => ?_)
          · skip
            have hc_15 := zb_ne rfl (show (0 : Int32).toInt = 0 by decide) c_15
            refine lv_iconst (v := 0) hx hb dX6_part_72 (by decide) ?_
            refine lv_istore (lv' := [(13, .int 0), (12, .int 0), (11, .int i), (9, .long ab), (0, .ref (q 0)), (1, .ref (qS q i0 0)), (2, .ref (qD q d1 0)), (3, .ref (qD q d2 0)), (4, .int wh), (5, .long pp), (7, .int h1), (8, .int h2)]) hx hb dX6_part_73 hl (by decide) rfl (fun ls hl => ?_)
            refine lv_lload hx hb dX6_part_75 (lv_at hl 3 rfl) ?_
            refine lv_aload_n hx hb dX6_part_77 rfl (lv_at hl 5 rfl) ?_
            refine va_get (D := (dC, dI)) (ci := 5) (v := .ref (qS q i0 1)) (C := RX5) (T := TX5) (N := 3) hx hb htb inw5 hown hK.1 hP (28 + 2 * i0) (zX_S0 hi0) rfl 0 (by decide) (htb _ wmt1_158) (fun _ h9 => h9) rfl dX6_part_78 ?_
            refine lv_iload hx hb dX6_part_81 (lv_at hl 2 rfl) ?_
            refine va_iald (D := (dC, dI)) hx hb hK.1 hP (29 + 2 * i0) 0 (zX_S1 hi0) rfl (z_in (by omega)) dX6_part_83 ?_
            refine lv_topi (fun x_16 ex_16 => ?_)
            refine lv_i2l (v := x_16.toInt64) hx hb dX6_part_84 rfl ?_
            refine lv_topl (fun x_17 ex_17 => ?_)
            have hx_17 : x_17.toInt = x_16.toInt := by rw [ex_17]; exact Jvm.Kit.i64_of_i32 _
            refine lv_aload_n hx hb dX6_part_85 rfl (lv_at hl 6 rfl) ?_
            refine lv_iload hx hb dX6_part_86 (lv_at hl 10 rfl) ?_
            refine lv_iload hx hb dX6_part_88 (lv_at hl 1 rfl) ?_
            refine zcS_l (w := (zX k q z)) (wc := (zD k (qD q d1) (xD z d1))) (va_runV (As := [.int h1, .int 0]) (rest := [.long x_17, .long ab]) ⟨hx, hb, hml, hown, htb⟩ (c_X1_weight l dC dI k (qD q d1) (xD z d1) h1 0 _ ) (cwV 2 htb (gzV wmt3_77 wmt3_78 wmt3_79 wmt1_6 wmt3_80) rfl rfl rfl (by decide +kernel) ⟨Nat.le_of_ble_eq_true rfl, Nat.le_of_ble_eq_true rfl⟩) (zp_V (ci := 1) (q0 := (16 + 3 * d1)) hK hP (hDa _) [16 + 3 * d1, 17 + 3 * d1, 18 + 3 * d1] (zX_DC hd1) (zX_ndD hd1) rfl (zX_D0 hd1)) rfl rfl hl.1 rfl (lv_room (Nat.le_of_ble_eq_true rfl)) dX6_part_90 ⟨Nat.le_of_ble_eq_true rfl, Nat.le_of_ble_eq_true rfl⟩) hP (hDa _) hS hA [16 + 3 * d1, 17 + 3 * d1, 18 + 3 * d1] (zX_DC hd1) (fun _ => rfl) (fun r_18 u_19 H locs w_20 hP _ hS => ?_)
            have hP : va_P (dC, dI) vwCl (zX k q z) H := (zX_Dkeep hd1) ▸ hP
            refine lv_lmul hx hb dX6_part_93 ?_
            refine lv_topl (fun x_21 ex_21 => ?_)
            refine lv_aload_n hx hb dX6_part_94 rfl (lv_at hl 7 rfl) ?_
            refine lv_iload hx hb dX6_part_95 (lv_at hl 11 rfl) ?_
            refine lv_iload hx hb dX6_part_97 (lv_at hl 0 rfl) ?_
            refine zcS_l (w := (zX k q z)) (wc := (zD k (qD q d2) (xD z d2))) (va_runV (As := [.int h2, .int 0]) (rest := [.long x_21, .long ab]) ⟨hx, hb, hml, hown, htb⟩ (c_X1_weight l dC dI k (qD q d2) (xD z d2) h2 0 _ ) (cwV 2 htb (gzV wmt3_77 wmt3_78 wmt3_79 wmt1_6 wmt3_80) rfl rfl rfl (by decide +kernel) ⟨Nat.le_of_ble_eq_true rfl, Nat.le_of_ble_eq_true rfl⟩) (zp_V (ci := 1) (q0 := (16 + 3 * d2)) hK hP (hDa _) [16 + 3 * d2, 17 + 3 * d2, 18 + 3 * d2] (zX_DC hd2) (zX_ndD hd2) rfl (zX_D0 hd2)) rfl rfl hl.1 rfl (lv_room (Nat.le_of_ble_eq_true rfl)) dX6_part_99 ⟨Nat.le_of_ble_eq_true rfl, Nat.le_of_ble_eq_true rfl⟩) hP (hDa _) hS hA [16 + 3 * d2, 17 + 3 * d2, 18 + 3 * d2] (zX_DC hd2) (fun _ => rfl) (fun r_22 u_23 H locs w_24 hP _ hS => ?_)
            have hP : va_P (dC, dI) vwCl (zX k q z) H := (zX_Dkeep hd2) ▸ hP
            refine lv_lmul hx hb dX6_part_102 ?_
            refine lv_topl (fun x_25 ex_25 => ?_)
            refine lv_ladd hx hb dX6_part_103 ?_
            refine lv_topl (fun x_26 ex_26 => ?_)
            refine lv_lstore (lv' := [(9, .long x_26), (13, .int 0), (12, .int 0), (11, .int i), (0, .ref (q 0)), (1, .ref (qS q i0 0)), (2, .ref (qD q d1 0)), (3, .ref (qD q d2 0)), (4, .int wh), (5, .long pp), (7, .int h1), (8, .int h2)]) hx hb dX6_part_104 hl (by decide) rfl (fun ls hl => ?_)
            obtain ⟨x_27, ex_27⟩ : ∃ y : Int32, y = i + 1 := ⟨_, rfl⟩
            have hx_27 : x_27.toInt = i.toInt + 1 := z_add ex_27 rfl (show (1 : Int32).toInt = 1 by decide) (by omega)
            refine lv_iinc (v := x_27) (lv' := [(11, .int x_27), (9, .long x_26), (13, .int 0), (12, .int 0), (0, .ref (q 0)), (1, .ref (qS q i0 0)), (2, .ref (qD q d1 0)), (3, .ref (qD q d2 0)), (4, .int wh), (5, .long pp), (7, .int h1), (8, .int h2)]) hx hb dX6_part_106 hl (k := 3) rfl (by rw [ex_27]; rfl) (by decide) rfl (fun ls hl => ?_)
            refine lv_goto (tgt := 42) hx hb dX6_part_109 (by decide) ?_
            exact ih42 ((4 - x_27.toInt).toNat) (by omega) x_26 x_27 (show 0 ≤ x_27.toInt ∧ x_27.toInt ≤ 4 by omega) rfl H locs ls hP hS (lv_sub hl [0, 1, 4, 5, 6, 7, 8, 9, 10, 11] rfl)
          · skip
            have hc_15 := zb_eq rfl (show (0 : Int32).toInt = 0 by decide) c_15
            refine lv_iconst (v := 1) hx hb dX6_part_68 (by decide) ?_
            refine lv_goto (tgt := 73) hx hb dX6_part_69 (by decide) ?_
            refine lv_istore (lv' := [(13, .int 1), (12, .int 0), (11, .int i), (9, .long ab), (0, .ref (q 0)), (1, .ref (qS q i0 0)), (2, .ref (qD q d1 0)), (3, .ref (qD q d2 0)), (4, .int wh), (5, .long pp), (7, .int h1), (8, .int h2)]) hx hb dX6_part_73 hl (by decide) rfl (fun ls hl => ?_)
            refine lv_lload hx hb dX6_part_75 (lv_at hl 3 rfl) ?_
            refine lv_aload_n hx hb dX6_part_77 rfl (lv_at hl 5 rfl) ?_
            refine va_get (D := (dC, dI)) (ci := 5) (v := .ref (qS q i0 1)) (C := RX5) (T := TX5) (N := 3) hx hb htb inw5 hown hK.1 hP (28 + 2 * i0) (zX_S0 hi0) rfl 0 (by decide) (htb _ wmt1_158) (fun _ h9 => h9) rfl dX6_part_78 ?_
            refine lv_iload hx hb dX6_part_81 (lv_at hl 2 rfl) ?_
            refine va_iald (D := (dC, dI)) hx hb hK.1 hP (29 + 2 * i0) 0 (zX_S1 hi0) rfl (z_in (by omega)) dX6_part_83 ?_
            refine lv_topi (fun x_28 ex_28 => ?_)
            refine lv_i2l (v := x_28.toInt64) hx hb dX6_part_84 rfl ?_
            refine lv_topl (fun x_29 ex_29 => ?_)
            have hx_29 : x_29.toInt = x_28.toInt := by rw [ex_29]; exact Jvm.Kit.i64_of_i32 _
            refine lv_aload_n hx hb dX6_part_85 rfl (lv_at hl 6 rfl) ?_
            refine lv_iload hx hb dX6_part_86 (lv_at hl 10 rfl) ?_
            refine lv_iload hx hb dX6_part_88 (lv_at hl 1 rfl) ?_
            refine zcS_l (w := (zX k q z)) (wc := (zD k (qD q d1) (xD z d1))) (va_runV (As := [.int h1, .int 0]) (rest := [.long x_29, .long ab]) ⟨hx, hb, hml, hown, htb⟩ (c_X1_weight l dC dI k (qD q d1) (xD z d1) h1 0 _ ) (cwV 2 htb (gzV wmt3_77 wmt3_78 wmt3_79 wmt1_6 wmt3_80) rfl rfl rfl (by decide +kernel) ⟨Nat.le_of_ble_eq_true rfl, Nat.le_of_ble_eq_true rfl⟩) (zp_V (ci := 1) (q0 := (16 + 3 * d1)) hK hP (hDa _) [16 + 3 * d1, 17 + 3 * d1, 18 + 3 * d1] (zX_DC hd1) (zX_ndD hd1) rfl (zX_D0 hd1)) rfl rfl hl.1 rfl (lv_room (Nat.le_of_ble_eq_true rfl)) dX6_part_90 ⟨Nat.le_of_ble_eq_true rfl, Nat.le_of_ble_eq_true rfl⟩) hP (hDa _) hS hA [16 + 3 * d1, 17 + 3 * d1, 18 + 3 * d1] (zX_DC hd1) (fun _ => rfl) (fun r_30 u_31 H locs w_32 hP _ hS => ?_)
            have hP : va_P (dC, dI) vwCl (zX k q z) H := (zX_Dkeep hd1) ▸ hP
            refine lv_lmul hx hb dX6_part_93 ?_
            refine lv_topl (fun x_33 ex_33 => ?_)
            refine lv_aload_n hx hb dX6_part_94 rfl (lv_at hl 7 rfl) ?_
            refine lv_iload hx hb dX6_part_95 (lv_at hl 11 rfl) ?_
            refine lv_iload hx hb dX6_part_97 (lv_at hl 0 rfl) ?_
            refine zcS_l (w := (zX k q z)) (wc := (zD k (qD q d2) (xD z d2))) (va_runV (As := [.int h2, .int 1]) (rest := [.long x_33, .long ab]) ⟨hx, hb, hml, hown, htb⟩ (c_X1_weight l dC dI k (qD q d2) (xD z d2) h2 1 _ ) (cwV 2 htb (gzV wmt3_77 wmt3_78 wmt3_79 wmt1_6 wmt3_80) rfl rfl rfl (by decide +kernel) ⟨Nat.le_of_ble_eq_true rfl, Nat.le_of_ble_eq_true rfl⟩) (zp_V (ci := 1) (q0 := (16 + 3 * d2)) hK hP (hDa _) [16 + 3 * d2, 17 + 3 * d2, 18 + 3 * d2] (zX_DC hd2) (zX_ndD hd2) rfl (zX_D0 hd2)) rfl rfl hl.1 rfl (lv_room (Nat.le_of_ble_eq_true rfl)) dX6_part_99 ⟨Nat.le_of_ble_eq_true rfl, Nat.le_of_ble_eq_true rfl⟩) hP (hDa _) hS hA [16 + 3 * d2, 17 + 3 * d2, 18 + 3 * d2] (zX_DC hd2) (fun _ => rfl) (fun r_34 u_35 H locs w_36 hP _ hS => ?_)
            have hP : va_P (dC, dI) vwCl (zX k q z) H := (zX_Dkeep hd2) ▸ hP
            refine lv_lmul hx hb dX6_part_102 ?_
            refine lv_topl (fun x_37 ex_37 => ?_)
            refine lv_ladd hx hb dX6_part_103 ?_
            refine lv_topl (fun x_38 ex_38 => ?_)
            refine lv_lstore (lv' := [(9, .long x_38), (13, .int 1), (12, .int 0), (11, .int i), (0, .ref (q 0)), (1, .ref (qS q i0 0)), (2, .ref (qD q d1 0)), (3, .ref (qD q d2 0)), (4, .int wh), (5, .long pp), (7, .int h1), (8, .int h2)]) hx hb dX6_part_104 hl (by decide) rfl (fun ls hl => ?_)
            obtain ⟨x_39, ex_39⟩ : ∃ y : Int32, y = i + 1 := ⟨_, rfl⟩
            have hx_39 : x_39.toInt = i.toInt + 1 := z_add ex_39 rfl (show (1 : Int32).toInt = 1 by decide) (by omega)
            refine lv_iinc (v := x_39) (lv' := [(11, .int x_39), (9, .long x_38), (13, .int 1), (12, .int 0), (0, .ref (q 0)), (1, .ref (qS q i0 0)), (2, .ref (qD q d1 0)), (3, .ref (qD q d2 0)), (4, .int wh), (5, .long pp), (7, .int h1), (8, .int h2)]) hx hb dX6_part_106 hl (k := 3) rfl (by rw [ex_39]; rfl) (by decide) rfl (fun ls hl => ?_)
            refine lv_goto (tgt := 42) hx hb dX6_part_109 (by decide) ?_
            exact ih42 ((4 - x_39.toInt).toNat) (by omega) x_38 x_39 (show 0 ≤ x_39.toInt ∧ x_39.toInt ≤ 4 by omega) rfl H locs ls hP hS (lv_sub hl [0, 1, 4, 5, 6, 7, 8, 9, 10, 11] rfl)
        · skip
          have hc_13 := zb_nle (show (2 : Int32).toInt = 2 by decide) rfl c_13
          refine lv_iconst (v := 1) hx hb dX6_part_54 (by decide) ?_
          refine lv_goto (tgt := 59) hx hb dX6_part_55 (by decide) ?_
          refine lv_istore (lv' := [(12, .int 1), (11, .int i), (9, .long ab), (0, .ref (q 0)), (1, .ref (qS q i0 0)), (2, .ref (qD q d1 0)), (3, .ref (qD q d2 0)), (4, .int wh), (5, .long pp), (7, .int h1), (8, .int h2)]) hx hb dX6_part_59 hl (by decide) rfl (fun ls hl => ?_)
          refine lv_iload hx hb dX6_part_61 (lv_at hl 1 rfl) ?_
          refine lv_iconst (v := 2) hx hb dX6_part_63 (by decide) ?_
          refine lv_irem hx hb dX6_part_64 (by decide) ?_
          refine lv_topi (fun x_40 ex_40 => ?_)
          refine lv_if_ne (tgt := 72) hx hb dX6_part_65 (by decide) (fun c_41 => ?_) (fun c_41 => ?_)
          · skip
            have hc_41 := zb_ne rfl (show (0 : Int32).toInt = 0 by decide) c_41
            refine lv_iconst (v := 0) hx hb dX6_part_72 (by decide) ?_
            refine lv_istore (lv' := [(13, .int 0), (12, .int 1), (11, .int i), (9, .long ab), (0, .ref (q 0)), (1, .ref (qS q i0 0)), (2, .ref (qD q d1 0)), (3, .ref (qD q d2 0)), (4, .int wh), (5, .long pp), (7, .int h1), (8, .int h2)]) hx hb dX6_part_73 hl (by decide) rfl (fun ls hl => ?_)
            refine lv_lload hx hb dX6_part_75 (lv_at hl 3 rfl) ?_
            refine lv_aload_n hx hb dX6_part_77 rfl (lv_at hl 5 rfl) ?_
            refine va_get (D := (dC, dI)) (ci := 5) (v := .ref (qS q i0 1)) (C := RX5) (T := TX5) (N := 3) hx hb htb inw5 hown hK.1 hP (28 + 2 * i0) (zX_S0 hi0) rfl 0 (by decide) (htb _ wmt1_158) (fun _ h9 => h9) rfl dX6_part_78 ?_
            refine lv_iload hx hb dX6_part_81 (lv_at hl 2 rfl) ?_
            refine va_iald (D := (dC, dI)) hx hb hK.1 hP (29 + 2 * i0) 0 (zX_S1 hi0) rfl (z_in (by omega)) dX6_part_83 ?_
            refine lv_topi (fun x_42 ex_42 => ?_)
            refine lv_i2l (v := x_42.toInt64) hx hb dX6_part_84 rfl ?_
            refine lv_topl (fun x_43 ex_43 => ?_)
            have hx_43 : x_43.toInt = x_42.toInt := by rw [ex_43]; exact Jvm.Kit.i64_of_i32 _
            refine lv_aload_n hx hb dX6_part_85 rfl (lv_at hl 6 rfl) ?_
            refine lv_iload hx hb dX6_part_86 (lv_at hl 10 rfl) ?_
            refine lv_iload hx hb dX6_part_88 (lv_at hl 1 rfl) ?_
            refine zcS_l (w := (zX k q z)) (wc := (zD k (qD q d1) (xD z d1))) (va_runV (As := [.int h1, .int 1]) (rest := [.long x_43, .long ab]) ⟨hx, hb, hml, hown, htb⟩ (c_X1_weight l dC dI k (qD q d1) (xD z d1) h1 1 _ ) (cwV 2 htb (gzV wmt3_77 wmt3_78 wmt3_79 wmt1_6 wmt3_80) rfl rfl rfl (by decide +kernel) ⟨Nat.le_of_ble_eq_true rfl, Nat.le_of_ble_eq_true rfl⟩) (zp_V (ci := 1) (q0 := (16 + 3 * d1)) hK hP (hDa _) [16 + 3 * d1, 17 + 3 * d1, 18 + 3 * d1] (zX_DC hd1) (zX_ndD hd1) rfl (zX_D0 hd1)) rfl rfl hl.1 rfl (lv_room (Nat.le_of_ble_eq_true rfl)) dX6_part_90 ⟨Nat.le_of_ble_eq_true rfl, Nat.le_of_ble_eq_true rfl⟩) hP (hDa _) hS hA [16 + 3 * d1, 17 + 3 * d1, 18 + 3 * d1] (zX_DC hd1) (fun _ => rfl) (fun r_44 u_45 H locs w_46 hP _ hS => ?_)
            have hP : va_P (dC, dI) vwCl (zX k q z) H := (zX_Dkeep hd1) ▸ hP
            refine lv_lmul hx hb dX6_part_93 ?_
            refine lv_topl (fun x_47 ex_47 => ?_)
            refine lv_aload_n hx hb dX6_part_94 rfl (lv_at hl 7 rfl) ?_
            refine lv_iload hx hb dX6_part_95 (lv_at hl 11 rfl) ?_
            refine lv_iload hx hb dX6_part_97 (lv_at hl 0 rfl) ?_
            refine zcS_l (w := (zX k q z)) (wc := (zD k (qD q d2) (xD z d2))) (va_runV (As := [.int h2, .int 0]) (rest := [.long x_47, .long ab]) ⟨hx, hb, hml, hown, htb⟩ (c_X1_weight l dC dI k (qD q d2) (xD z d2) h2 0 _ ) (cwV 2 htb (gzV wmt3_77 wmt3_78 wmt3_79 wmt1_6 wmt3_80) rfl rfl rfl (by decide +kernel) ⟨Nat.le_of_ble_eq_true rfl, Nat.le_of_ble_eq_true rfl⟩) (zp_V (ci := 1) (q0 := (16 + 3 * d2)) hK hP (hDa _) [16 + 3 * d2, 17 + 3 * d2, 18 + 3 * d2] (zX_DC hd2) (zX_ndD hd2) rfl (zX_D0 hd2)) rfl rfl hl.1 rfl (lv_room (Nat.le_of_ble_eq_true rfl)) dX6_part_99 ⟨Nat.le_of_ble_eq_true rfl, Nat.le_of_ble_eq_true rfl⟩) hP (hDa _) hS hA [16 + 3 * d2, 17 + 3 * d2, 18 + 3 * d2] (zX_DC hd2) (fun _ => rfl) (fun r_48 u_49 H locs w_50 hP _ hS => ?_)
            have hP : va_P (dC, dI) vwCl (zX k q z) H := (zX_Dkeep hd2) ▸ hP
            refine lv_lmul hx hb dX6_part_102 ?_
            refine lv_topl (fun x_51 ex_51 => ?_)
            refine lv_ladd hx hb dX6_part_103 ?_
            refine lv_topl (fun x_52 ex_52 => ?_)
            refine lv_lstore (lv' := [(9, .long x_52), (13, .int 0), (12, .int 1), (11, .int i), (0, .ref (q 0)), (1, .ref (qS q i0 0)), (2, .ref (qD q d1 0)), (3, .ref (qD q d2 0)), (4, .int wh), (5, .long pp), (7, .int h1), (8, .int h2)]) hx hb dX6_part_104 hl (by decide) rfl (fun ls hl => ?_)
            obtain ⟨x_53, ex_53⟩ : ∃ y : Int32, y = i + 1 := ⟨_, rfl⟩
            have hx_53 : x_53.toInt = i.toInt + 1 := z_add ex_53 rfl (show (1 : Int32).toInt = 1 by decide) (by omega)
            refine lv_iinc (v := x_53) (lv' := [(11, .int x_53), (9, .long x_52), (13, .int 0), (12, .int 1), (0, .ref (q 0)), (1, .ref (qS q i0 0)), (2, .ref (qD q d1 0)), (3, .ref (qD q d2 0)), (4, .int wh), (5, .long pp), (7, .int h1), (8, .int h2)]) hx hb dX6_part_106 hl (k := 3) rfl (by rw [ex_53]; rfl) (by decide) rfl (fun ls hl => ?_)
            refine lv_goto (tgt := 42) hx hb dX6_part_109 (by decide) ?_
            exact ih42 ((4 - x_53.toInt).toNat) (by omega) x_52 x_53 (show 0 ≤ x_53.toInt ∧ x_53.toInt ≤ 4 by omega) rfl H locs ls hP hS (lv_sub hl [0, 1, 4, 5, 6, 7, 8, 9, 10, 11] rfl)
          · skip
            have hc_41 := zb_eq rfl (show (0 : Int32).toInt = 0 by decide) c_41
            refine lv_iconst (v := 1) hx hb dX6_part_68 (by decide) ?_
            refine lv_goto (tgt := 73) hx hb dX6_part_69 (by decide) ?_
            refine lv_istore (lv' := [(13, .int 1), (12, .int 1), (11, .int i), (9, .long ab), (0, .ref (q 0)), (1, .ref (qS q i0 0)), (2, .ref (qD q d1 0)), (3, .ref (qD q d2 0)), (4, .int wh), (5, .long pp), (7, .int h1), (8, .int h2)]) hx hb dX6_part_73 hl (by decide) rfl (fun ls hl => ?_)
            refine lv_lload hx hb dX6_part_75 (lv_at hl 3 rfl) ?_
            refine lv_aload_n hx hb dX6_part_77 rfl (lv_at hl 5 rfl) ?_
            refine va_get (D := (dC, dI)) (ci := 5) (v := .ref (qS q i0 1)) (C := RX5) (T := TX5) (N := 3) hx hb htb inw5 hown hK.1 hP (28 + 2 * i0) (zX_S0 hi0) rfl 0 (by decide) (htb _ wmt1_158) (fun _ h9 => h9) rfl dX6_part_78 ?_
            refine lv_iload hx hb dX6_part_81 (lv_at hl 2 rfl) ?_
            refine va_iald (D := (dC, dI)) hx hb hK.1 hP (29 + 2 * i0) 0 (zX_S1 hi0) rfl (z_in (by omega)) dX6_part_83 ?_
            refine lv_topi (fun x_54 ex_54 => ?_)
            refine lv_i2l (v := x_54.toInt64) hx hb dX6_part_84 rfl ?_
            refine lv_topl (fun x_55 ex_55 => ?_)
            have hx_55 : x_55.toInt = x_54.toInt := by rw [ex_55]; exact Jvm.Kit.i64_of_i32 _
            refine lv_aload_n hx hb dX6_part_85 rfl (lv_at hl 6 rfl) ?_
            refine lv_iload hx hb dX6_part_86 (lv_at hl 10 rfl) ?_
            refine lv_iload hx hb dX6_part_88 (lv_at hl 1 rfl) ?_
            refine zcS_l (w := (zX k q z)) (wc := (zD k (qD q d1) (xD z d1))) (va_runV (As := [.int h1, .int 1]) (rest := [.long x_55, .long ab]) ⟨hx, hb, hml, hown, htb⟩ (c_X1_weight l dC dI k (qD q d1) (xD z d1) h1 1 _ ) (cwV 2 htb (gzV wmt3_77 wmt3_78 wmt3_79 wmt1_6 wmt3_80) rfl rfl rfl (by decide +kernel) ⟨Nat.le_of_ble_eq_true rfl, Nat.le_of_ble_eq_true rfl⟩) (zp_V (ci := 1) (q0 := (16 + 3 * d1)) hK hP (hDa _) [16 + 3 * d1, 17 + 3 * d1, 18 + 3 * d1] (zX_DC hd1) (zX_ndD hd1) rfl (zX_D0 hd1)) rfl rfl hl.1 rfl (lv_room (Nat.le_of_ble_eq_true rfl)) dX6_part_90 ⟨Nat.le_of_ble_eq_true rfl, Nat.le_of_ble_eq_true rfl⟩) hP (hDa _) hS hA [16 + 3 * d1, 17 + 3 * d1, 18 + 3 * d1] (zX_DC hd1) (fun _ => rfl) (fun r_56 u_57 H locs w_58 hP _ hS => ?_)
            have hP : va_P (dC, dI) vwCl (zX k q z) H := (zX_Dkeep hd1) ▸ hP
            refine lv_lmul hx hb dX6_part_93 ?_
            refine lv_topl (fun x_59 ex_59 => ?_)
            refine lv_aload_n hx hb dX6_part_94 rfl (lv_at hl 7 rfl) ?_
            refine lv_iload hx hb dX6_part_95 (lv_at hl 11 rfl) ?_
            refine lv_iload hx hb dX6_part_97 (lv_at hl 0 rfl) ?_
            refine zcS_l (w := (zX k q z)) (wc := (zD k (qD q d2) (xD z d2))) (va_runV (As := [.int h2, .int 1]) (rest := [.long x_59, .long ab]) ⟨hx, hb, hml, hown, htb⟩ (c_X1_weight l dC dI k (qD q d2) (xD z d2) h2 1 _ ) (cwV 2 htb (gzV wmt3_77 wmt3_78 wmt3_79 wmt1_6 wmt3_80) rfl rfl rfl (by decide +kernel) ⟨Nat.le_of_ble_eq_true rfl, Nat.le_of_ble_eq_true rfl⟩) (zp_V (ci := 1) (q0 := (16 + 3 * d2)) hK hP (hDa _) [16 + 3 * d2, 17 + 3 * d2, 18 + 3 * d2] (zX_DC hd2) (zX_ndD hd2) rfl (zX_D0 hd2)) rfl rfl hl.1 rfl (lv_room (Nat.le_of_ble_eq_true rfl)) dX6_part_99 ⟨Nat.le_of_ble_eq_true rfl, Nat.le_of_ble_eq_true rfl⟩) hP (hDa _) hS hA [16 + 3 * d2, 17 + 3 * d2, 18 + 3 * d2] (zX_DC hd2) (fun _ => rfl) (fun r_60 u_61 H locs w_62 hP _ hS => ?_)
            have hP : va_P (dC, dI) vwCl (zX k q z) H := (zX_Dkeep hd2) ▸ hP
            refine lv_lmul hx hb dX6_part_102 ?_
            refine lv_topl (fun x_63 ex_63 => ?_)
            refine lv_ladd hx hb dX6_part_103 ?_
            refine lv_topl (fun x_64 ex_64 => ?_)
            refine lv_lstore (lv' := [(9, .long x_64), (13, .int 1), (12, .int 1), (11, .int i), (0, .ref (q 0)), (1, .ref (qS q i0 0)), (2, .ref (qD q d1 0)), (3, .ref (qD q d2 0)), (4, .int wh), (5, .long pp), (7, .int h1), (8, .int h2)]) hx hb dX6_part_104 hl (by decide) rfl (fun ls hl => ?_)
            obtain ⟨x_65, ex_65⟩ : ∃ y : Int32, y = i + 1 := ⟨_, rfl⟩
            have hx_65 : x_65.toInt = i.toInt + 1 := z_add ex_65 rfl (show (1 : Int32).toInt = 1 by decide) (by omega)
            refine lv_iinc (v := x_65) (lv' := [(11, .int x_65), (9, .long x_64), (13, .int 1), (12, .int 1), (0, .ref (q 0)), (1, .ref (qS q i0 0)), (2, .ref (qD q d1 0)), (3, .ref (qD q d2 0)), (4, .int wh), (5, .long pp), (7, .int h1), (8, .int h2)]) hx hb dX6_part_106 hl (k := 3) rfl (by rw [ex_65]; rfl) (by decide) rfl (fun ls hl => ?_)
            refine lv_goto (tgt := 42) hx hb dX6_part_109 (by decide) ?_
            exact ih42 ((4 - x_65.toInt).toNat) (by omega) x_64 x_65 (show 0 ≤ x_65.toInt ∧ x_65.toInt ≤ 4 by omega) rfl H locs ls hP hS (lv_sub hl [0, 1, 4, 5, 6, 7, 8, 9, 10, 11] rfl)
  · skip
    refine lv_iload hx hb dX6_part_0 (lv_at hl 4 rfl) ?_
    refine lv_if_eq (tgt := 11) hx hb dX6_part_2 (by decide) (fun c_66 => ?_) (fun c_66 => ?_)
    · skip
      have hc_66 := zb_eq rfl (show (0 : Int32).toInt = 0 by decide) c_66
      refine lv_iconst (v := 1) hx hb dX6_part_11 (by decide) ?_
      refine lv_goto (tgt := 16) hx hb dX6_part_12 (by decide) ?_
      refine lv_istore (lv' := [(7, .int 1), (0, .ref (q 0)), (1, .ref (qS q i0 0)), (2, .ref (qD q d1 0)), (3, .ref (qD q d2 0)), (4, .int wh), (5, .long pp)]) hx hb dX6_part_16 hl (by decide) rfl (fun ls hl => ?_)
      refine lv_iload hx hb dX6_part_18 (lv_at hl 5 rfl) ?_
      refine lv_if_eq (tgt := 29) hx hb dX6_part_20 (by decide) (fun c_67 => ?_) (fun c_67 => ?_)
      · skip
        have hc_67 := zb_eq rfl (show (0 : Int32).toInt = 0 by decide) c_67
        refine lv_iconst (v := 1) hx hb dX6_part_29 (by decide) ?_
        refine lv_goto (tgt := 34) hx hb dX6_part_30 (by decide) ?_
        refine lv_istore (lv' := [(8, .int 1), (7, .int 1), (0, .ref (q 0)), (1, .ref (qS q i0 0)), (2, .ref (qD q d1 0)), (3, .ref (qD q d2 0)), (4, .int wh), (5, .long pp)]) hx hb dX6_part_34 hl (by decide) rfl (fun ls hl => ?_)
        exact hj36 (1, 1) H locs ls trivial hP hS (lv_sub hl [2, 3, 4, 5, 6, 7, 1, 0] rfl)
      · skip
        have hc_67 := zb_ne rfl (show (0 : Int32).toInt = 0 by decide) c_67
        refine lv_iload hx hb dX6_part_23 (lv_at hl 5 rfl) ?_
        refine lv_iconst (v := 2) hx hb dX6_part_25 (by decide) ?_
        refine lv_icmp_ne (tgt := 33) hx hb dX6_part_26 (by decide) (fun c_68 => ?_) (fun c_68 => ?_)
        · skip
          have hc_68 := zb_ne rfl (show (2 : Int32).toInt = 2 by decide) c_68
          refine lv_iconst (v := 0) hx hb dX6_part_33 (by decide) ?_
          refine lv_istore (lv' := [(8, .int 0), (7, .int 1), (0, .ref (q 0)), (1, .ref (qS q i0 0)), (2, .ref (qD q d1 0)), (3, .ref (qD q d2 0)), (4, .int wh), (5, .long pp)]) hx hb dX6_part_34 hl (by decide) rfl (fun ls hl => ?_)
          exact hj36 (1, 0) H locs ls trivial hP hS (lv_sub hl [2, 3, 4, 5, 6, 7, 1, 0] rfl)
        · skip
          have hc_68 := zb_eq rfl (show (2 : Int32).toInt = 2 by decide) c_68
          refine lv_iconst (v := 1) hx hb dX6_part_29 (by decide) ?_
          refine lv_goto (tgt := 34) hx hb dX6_part_30 (by decide) ?_
          refine lv_istore (lv' := [(8, .int 1), (7, .int 1), (0, .ref (q 0)), (1, .ref (qS q i0 0)), (2, .ref (qD q d1 0)), (3, .ref (qD q d2 0)), (4, .int wh), (5, .long pp)]) hx hb dX6_part_34 hl (by decide) rfl (fun ls hl => ?_)
          exact hj36 (1, 1) H locs ls trivial hP hS (lv_sub hl [2, 3, 4, 5, 6, 7, 1, 0] rfl)
    · skip
      have hc_66 := zb_ne rfl (show (0 : Int32).toInt = 0 by decide) c_66
      refine lv_iload hx hb dX6_part_5 (lv_at hl 4 rfl) ?_
      refine lv_iconst (v := 1) hx hb dX6_part_7 (by decide) ?_
      refine lv_icmp_ne (tgt := 15) hx hb dX6_part_8 (by decide) (fun c_69 => ?_) (fun c_69 => ?_)
      · skip
        have hc_69 := zb_ne rfl (show (1 : Int32).toInt = 1 by decide) c_69
        refine lv_iconst (v := 0) hx hb dX6_part_15 (by decide) ?_
        refine lv_istore (lv' := [(7, .int 0), (0, .ref (q 0)), (1, .ref (qS q i0 0)), (2, .ref (qD q d1 0)), (3, .ref (qD q d2 0)), (4, .int wh), (5, .long pp)]) hx hb dX6_part_16 hl (by decide) rfl (fun ls hl => ?_)
        refine lv_iload hx hb dX6_part_18 (lv_at hl 5 rfl) ?_
        refine lv_if_eq (tgt := 29) hx hb dX6_part_20 (by decide) (fun c_70 => ?_) (fun c_70 => ?_)
        · skip
          have hc_70 := zb_eq rfl (show (0 : Int32).toInt = 0 by decide) c_70
          refine lv_iconst (v := 1) hx hb dX6_part_29 (by decide) ?_
          refine lv_goto (tgt := 34) hx hb dX6_part_30 (by decide) ?_
          refine lv_istore (lv' := [(8, .int 1), (7, .int 0), (0, .ref (q 0)), (1, .ref (qS q i0 0)), (2, .ref (qD q d1 0)), (3, .ref (qD q d2 0)), (4, .int wh), (5, .long pp)]) hx hb dX6_part_34 hl (by decide) rfl (fun ls hl => ?_)
          exact hj36 (0, 1) H locs ls trivial hP hS (lv_sub hl [2, 3, 4, 5, 6, 7, 1, 0] rfl)
        · skip
          have hc_70 := zb_ne rfl (show (0 : Int32).toInt = 0 by decide) c_70
          refine lv_iload hx hb dX6_part_23 (lv_at hl 5 rfl) ?_
          refine lv_iconst (v := 2) hx hb dX6_part_25 (by decide) ?_
          refine lv_icmp_ne (tgt := 33) hx hb dX6_part_26 (by decide) (fun c_71 => ?_) (fun c_71 => ?_)
          · skip
            have hc_71 := zb_ne rfl (show (2 : Int32).toInt = 2 by decide) c_71
            refine lv_iconst (v := 0) hx hb dX6_part_33 (by decide) ?_
            refine lv_istore (lv' := [(8, .int 0), (7, .int 0), (0, .ref (q 0)), (1, .ref (qS q i0 0)), (2, .ref (qD q d1 0)), (3, .ref (qD q d2 0)), (4, .int wh), (5, .long pp)]) hx hb dX6_part_34 hl (by decide) rfl (fun ls hl => ?_)
            exact hj36 (0, 0) H locs ls trivial hP hS (lv_sub hl [2, 3, 4, 5, 6, 7, 1, 0] rfl)
          · skip
            have hc_71 := zb_eq rfl (show (2 : Int32).toInt = 2 by decide) c_71
            refine lv_iconst (v := 1) hx hb dX6_part_29 (by decide) ?_
            refine lv_goto (tgt := 34) hx hb dX6_part_30 (by decide) ?_
            refine lv_istore (lv' := [(8, .int 1), (7, .int 0), (0, .ref (q 0)), (1, .ref (qS q i0 0)), (2, .ref (qD q d1 0)), (3, .ref (qD q d2 0)), (4, .int wh), (5, .long pp)]) hx hb dX6_part_34 hl (by decide) rfl (fun ls hl => ?_)
            exact hj36 (0, 1) H locs ls trivial hP hS (lv_sub hl [2, 3, 4, 5, 6, 7, 1, 0] rfl)
      · skip
        have hc_69 := zb_eq rfl (show (1 : Int32).toInt = 1 by decide) c_69
        refine lv_iconst (v := 1) hx hb dX6_part_11 (by decide) ?_
        refine lv_goto (tgt := 16) hx hb dX6_part_12 (by decide) ?_
        refine lv_istore (lv' := [(7, .int 1), (0, .ref (q 0)), (1, .ref (qS q i0 0)), (2, .ref (qD q d1 0)), (3, .ref (qD q d2 0)), (4, .int wh), (5, .long pp)]) hx hb dX6_part_16 hl (by decide) rfl (fun ls hl => ?_)
        refine lv_iload hx hb dX6_part_18 (lv_at hl 5 rfl) ?_
        refine lv_if_eq (tgt := 29) hx hb dX6_part_20 (by decide) (fun c_72 => ?_) (fun c_72 => ?_)
        · skip
          have hc_72 := zb_eq rfl (show (0 : Int32).toInt = 0 by decide) c_72
          refine lv_iconst (v := 1) hx hb dX6_part_29 (by decide) ?_
          refine lv_goto (tgt := 34) hx hb dX6_part_30 (by decide) ?_
          refine lv_istore (lv' := [(8, .int 1), (7, .int 1), (0, .ref (q 0)), (1, .ref (qS q i0 0)), (2, .ref (qD q d1 0)), (3, .ref (qD q d2 0)), (4, .int wh), (5, .long pp)]) hx hb dX6_part_34 hl (by decide) rfl (fun ls hl => ?_)
          exact hj36 (1, 1) H locs ls trivial hP hS (lv_sub hl [2, 3, 4, 5, 6, 7, 1, 0] rfl)
        · skip
          have hc_72 := zb_ne rfl (show (0 : Int32).toInt = 0 by decide) c_72
          refine lv_iload hx hb dX6_part_23 (lv_at hl 5 rfl) ?_
          refine lv_iconst (v := 2) hx hb dX6_part_25 (by decide) ?_
          refine lv_icmp_ne (tgt := 33) hx hb dX6_part_26 (by decide) (fun c_73 => ?_) (fun c_73 => ?_)
          · skip
            have hc_73 := zb_ne rfl (show (2 : Int32).toInt = 2 by decide) c_73
            refine lv_iconst (v := 0) hx hb dX6_part_33 (by decide) ?_
            refine lv_istore (lv' := [(8, .int 0), (7, .int 1), (0, .ref (q 0)), (1, .ref (qS q i0 0)), (2, .ref (qD q d1 0)), (3, .ref (qD q d2 0)), (4, .int wh), (5, .long pp)]) hx hb dX6_part_34 hl (by decide) rfl (fun ls hl => ?_)
            exact hj36 (1, 0) H locs ls trivial hP hS (lv_sub hl [2, 3, 4, 5, 6, 7, 1, 0] rfl)
          · skip
            have hc_73 := zb_eq rfl (show (2 : Int32).toInt = 2 by decide) c_73
            refine lv_iconst (v := 1) hx hb dX6_part_29 (by decide) ?_
            refine lv_goto (tgt := 34) hx hb dX6_part_30 (by decide) ?_
            refine lv_istore (lv' := [(8, .int 1), (7, .int 1), (0, .ref (q 0)), (1, .ref (qS q i0 0)), (2, .ref (qD q d1 0)), (3, .ref (qD q d2 0)), (4, .int wh), (5, .long pp)]) hx hb dX6_part_34 hl (by decide) rfl (fun ls hl => ?_)
            exact hj36 (1, 1) H locs ls trivial hP hS (lv_sub hl [2, 3, 4, 5, 6, 7, 1, 0] rfl)
set_option maxHeartbeats 4000000 in
set_option maxRecDepth 100000 in
theorem c_X6_parted (l : Launch) (dC : Nat → ClassId) (dI : Nat → Nat → Nat) (k : Nat → ClassId) (q : Nat → Nat) (z : ZS) (z0 : Int32) (d : Int32) (d2 : Int32) (n : Int32) (w : Int32) (sz : Nat) (hI : XInv z) : Met l yX6_parted (wz yX6_parted cX6_parted 11 (some .long)) ({ frames := 4, cells := 0, slots := 0, locals := 102 }) (va_Pc [.ref (q 0), .int z0, .int d, .int d2, .int n, .int w] (zPre dC dI k (zTX k) (zX k q z) sz)) (va_Ql (fun (r : Int64) (u : ZS) => (XInv u) ∧ (trX u = trX z)) (fun u t => zPost dC dI (va_A (zX k q z) sz) (zX k q u) t) (va_A (zX k q z) sz)) 0 0 (va_A (zX k q z) sz) := by
  refine Met.ofW (cc := cX6_parted) (maxL := 11) (ret := (some .long)) (by decide) rfl ?_
  intro p e s m args below meth c s₁ B hml hv
  obtain ⟨rfl, hsz, hP, hK, hD0⟩ := hv
  have hx := B.exec
  have hb := B.bytes
  have hr := B.returns
  have hts := atoms_spec (ws := wz yX6_parted cX6_parted 11 (some .long)) B.pre
  have htb : ∀ w ∈ zw, w.before _ s = true := fun w h => hts w (List.mem_cons_of_mem _ h)
  have hown : s.vm.findClass RX6 = some m.cls := findClass_of_methodNamed B.named
  have hlocks := B.notSynchronized
  clear hts
  subst hsz
  have hD := hD0.self (sz := s.heap.size)
  generalize hAe : va_A (zX k q z) s.heap.size = A at hD ⊢
  have hA : ∀ q : Nat, s.heap.size ≤ q → A q := fun q h => by rw [← hAe]; exact Or.inr h
  have hDa : ∀ z9 : ZS, va_D A (zX k q z9) := fun z9 => va_D_adr (w := zX k q z) rfl hD
  have hl := lv_entry ([.ref (q 0), .int z0, .int d, .int d2, .int n, .int w]) (n := 11) (Nat.le_of_ble_eq_true rfl)
  rw [lg_entry_eq]
  generalize (lg_sl ([.ref (q 0), .int z0, .int d, .int d2, .int n, .int w]) ++ List.replicate (11 - (lg_sl ([.ref (q 0), .int z0, .int d, .int d2, .int n, .int w])).length) Slot.unset).toArray = ls at hl ⊢
  have hl : lv_has ls 11 [(0, .ref (q 0)), (1, .int z0), (2, .int d), (3, .int d2), (4, .int n), (5, .int w)] := hl
  refine z_start2 (A := A) (w := (zX k q z)) hP (fun H locs hP hS => ?_)
  clear hD0 hAe
  have hT : trX z = trX z := rfl
  refine lv_iload_n hx hb dX6_parted_0 rfl (lv_at hl 1 rfl) ?_
  refine zc0_i (w := (zX k q z)) (va_runS (As := [.int z0]) (rest := []) ⟨hx, hb, hml, hown, htb⟩ (c_X6_isSheet l dC dI k z0 _ ) (va_cwS 1 htb (gzS wmt2_95 wmt2_96 wmt1_1 wmt2_97) rfl rfl rfl (by decide +kernel) ⟨Nat.le_of_ble_eq_true rfl, Nat.le_of_ble_eq_true rfl⟩) (zp0_S hK) rfl rfl hl.1 rfl (lv_room (Nat.le_of_ble_eq_true rfl)) dX6_parted_1 ⟨Nat.le_of_ble_eq_true rfl, Nat.le_of_ble_eq_true rfl⟩) hP hS hA (fun r_1 u_2 H locs w_3 hP hS => ?_)
  rcases w_3 with ⟨e_5, h_4⟩ | ⟨e_7, h_6⟩
  · skip
    replace e_5 : r_1 = 1 := e_5
    subst e_5
    replace h_4 : 0 ≤ z0.toInt ∧ z0.toInt < 4 := h_4
    refine lv_if_eq (tgt := 40) hx hb dX6_parted_4 (by decide) (fun c_8 => ?_) (fun c_8 => ?_)
    · skip
      exact absurd c_8 (by decide)
    · skip
      refine lv_iload_n hx hb dX6_parted_7 rfl (lv_at hl 2 rfl) ?_
      refine zc0_i (w := (zX k q z)) (va_runS (As := [.int d]) (rest := []) ⟨hx, hb, hml, hown, htb⟩ (c_X6_isDesign l dC dI k d _ ) (va_cwS 1 htb (gzS wmt1_211 wmt1_212 wmt1_1 wmt1_213) rfl rfl rfl (by decide +kernel) ⟨Nat.le_of_ble_eq_true rfl, Nat.le_of_ble_eq_true rfl⟩) (zp0_S hK) rfl rfl hl.1 rfl (lv_room (Nat.le_of_ble_eq_true rfl)) dX6_parted_8 ⟨Nat.le_of_ble_eq_true rfl, Nat.le_of_ble_eq_true rfl⟩) hP hS hA (fun r_9 u_10 H locs w_11 hP hS => ?_)
      rcases w_11 with ⟨e_13, h_12⟩ | ⟨e_15, h_14⟩
      · skip
        replace e_13 : r_9 = 1 := e_13
        subst e_13
        replace h_12 : 0 ≤ d.toInt ∧ d.toInt < 4 := h_12
        refine lv_if_eq (tgt := 40) hx hb dX6_parted_11 (by decide) (fun c_16 => ?_) (fun c_16 => ?_)
        · skip
          exact absurd c_16 (by decide)
        · skip
          refine lv_iload_n hx hb dX6_parted_14 rfl (lv_at hl 3 rfl) ?_
          refine zc0_i (w := (zX k q z)) (va_runS (As := [.int d2]) (rest := []) ⟨hx, hb, hml, hown, htb⟩ (c_X6_isDesign l dC dI k d2 _ ) (va_cwS 1 htb (gzS wmt1_211 wmt1_212 wmt1_1 wmt1_213) rfl rfl rfl (by decide +kernel) ⟨Nat.le_of_ble_eq_true rfl, Nat.le_of_ble_eq_true rfl⟩) (zp0_S hK) rfl rfl hl.1 rfl (lv_room (Nat.le_of_ble_eq_true rfl)) dX6_parted_15 ⟨Nat.le_of_ble_eq_true rfl, Nat.le_of_ble_eq_true rfl⟩) hP hS hA (fun r_17 u_18 H locs w_19 hP hS => ?_)
          rcases w_19 with ⟨e_21, h_20⟩ | ⟨e_23, h_22⟩
          · skip
            replace e_21 : r_17 = 1 := e_21
            subst e_21
            replace h_20 : 0 ≤ d2.toInt ∧ d2.toInt < 4 := h_20
            refine lv_if_eq (tgt := 40) hx hb dX6_parted_18 (by decide) (fun c_24 => ?_) (fun c_24 => ?_)
            · skip
              exact absurd c_24 (by decide)
            · skip
              refine lv_iload hx hb dX6_parted_21 (lv_at hl 4 rfl) ?_
              refine lv_if_lt (tgt := 40) hx hb dX6_parted_23 (by decide) (fun c_25 => ?_) (fun c_25 => ?_)
              · skip
                have hc_25 := zb_lt rfl (show (0 : Int32).toInt = 0 by decide) c_25
                refine lv_bipush (v := (-2)) hx hb dX6_parted_40 (by decide) ?_
                refine zc0_l (w := (zX k q z)) (va_runS (As := [.int (-2)]) (rest := []) ⟨hx, hb, hml, hown, htb⟩ (c_X6_asLong l dC dI k (-2) _ ) (va_cwS 1 htb (gzS wmt2_51 wmt2_52 wmt1_1 wmt2_53) rfl rfl rfl (by decide +kernel) ⟨Nat.le_of_ble_eq_true rfl, Nat.le_of_ble_eq_true rfl⟩) (zp0_S hK) rfl rfl hl.1 rfl (lv_room (Nat.le_of_ble_eq_true rfl)) dX6_parted_42 ⟨Nat.le_of_ble_eq_true rfl, Nat.le_of_ble_eq_true rfl⟩) hP hS hA (fun r_26 u_27 H locs w_28 hP hS => ?_)
                have h_29 := w_28
                replace h_29 : r_26.toInt = tl ((-2) : Int32) := h_29
                exact W.lret (v := r_26) hx hb hr (fun t ht hW => ⟨⟨r_26, z, rfl, ⟨hI, hT⟩, ⟨by rw [ht]; exact hP, hDa _⟩⟩, hS.F ht⟩) hS.2.2 dX6_parted_45
              · skip
                have hc_25 := zb_nlt rfl (show (0 : Int32).toInt = 0 by decide) c_25
                refine lv_iload hx hb dX6_parted_26 (lv_at hl 4 rfl) ?_
                refine lv_iconst (v := 4) hx hb dX6_parted_28 (by decide) ?_
                refine lv_icmp_ge (tgt := 40) hx hb dX6_parted_29 (by decide) (fun c_31 => ?_) (fun c_31 => ?_)
                · skip
                  have hc_31 := zb_le (show (4 : Int32).toInt = 4 by decide) rfl c_31
                  refine lv_bipush (v := (-2)) hx hb dX6_parted_40 (by decide) ?_
                  refine zc0_l (w := (zX k q z)) (va_runS (As := [.int (-2)]) (rest := []) ⟨hx, hb, hml, hown, htb⟩ (c_X6_asLong l dC dI k (-2) _ ) (va_cwS 1 htb (gzS wmt2_51 wmt2_52 wmt1_1 wmt2_53) rfl rfl rfl (by decide +kernel) ⟨Nat.le_of_ble_eq_true rfl, Nat.le_of_ble_eq_true rfl⟩) (zp0_S hK) rfl rfl hl.1 rfl (lv_room (Nat.le_of_ble_eq_true rfl)) dX6_parted_42 ⟨Nat.le_of_ble_eq_true rfl, Nat.le_of_ble_eq_true rfl⟩) hP hS hA (fun r_32 u_33 H locs w_34 hP hS => ?_)
                  have h_35 := w_34
                  replace h_35 : r_32.toInt = tl ((-2) : Int32) := h_35
                  exact W.lret (v := r_32) hx hb hr (fun t ht hW => ⟨⟨r_32, z, rfl, ⟨hI, hT⟩, ⟨by rw [ht]; exact hP, hDa _⟩⟩, hS.F ht⟩) hS.2.2 dX6_parted_45
                · skip
                  have hc_31 := zb_nle (show (4 : Int32).toInt = 4 by decide) rfl c_31
                  refine lv_iload hx hb dX6_parted_32 (lv_at hl 5 rfl) ?_
                  refine zc0_i (w := (zX k q z)) (va_runS (As := [.int w]) (rest := []) ⟨hx, hb, hml, hown, htb⟩ (c_X6_isEither l dC dI k w _ ) (va_cwS 1 htb (gzS wmt2_48 wmt2_49 wmt1_1 wmt2_50) rfl rfl rfl (by decide +kernel) ⟨Nat.le_of_ble_eq_true rfl, Nat.le_of_ble_eq_true rfl⟩) (zp0_S hK) rfl rfl hl.1 rfl (lv_room (Nat.le_of_ble_eq_true rfl)) dX6_parted_34 ⟨Nat.le_of_ble_eq_true rfl, Nat.le_of_ble_eq_true rfl⟩) hP hS hA (fun r_37 u_38 H locs w_39 hP hS => ?_)
                  rcases w_39 with ⟨e_41, h_40⟩ | ⟨e_43, h_42⟩
                  · skip
                    replace e_41 : r_37 = 1 := e_41
                    subst e_41
                    replace h_40 : 0 ≤ w.toInt ∧ w.toInt < 2 := h_40
                    refine lv_if_ne (tgt := 46) hx hb dX6_parted_37 (by decide) (fun c_44 => ?_) (fun c_44 => ?_)
                    · skip
                      refine lv_aload_n hx hb dX6_parted_46 rfl (lv_at hl 0 rfl) ?_
                      refine va_get (D := (dC, dI)) (ci := 6) (v := .ref (q 2)) (C := RX6) (T := TX6) (N := 12) hx hb htb inw6 hown hK.1 hP 0 rfl rfl 1 (by decide) (htb _ wmt1_171) (fun _ h9 => h9) rfl dX6_parted_47 ?_
                      refine lv_iload_n hx hb dX6_parted_50 rfl (lv_at hl 1 rfl) ?_
                      refine va_aldq (D := (dC, dI)) hx hb hK.1 hP 2 4 rfl rfl (z_in (by omega)) dX6_parted_51 ?_
                      obtain ⟨d_45, ed_45⟩ : ∃ x : Nat, x = z0.toNatClampNeg := ⟨_, rfl⟩
                      have hd_45 : d_45 < 4 := by rw [ed_45]; exact z_cl4 (by omega)
                      refine z_top (v2 := .ref (qS q d_45 0)) (zgS_at2 ed_45 hd_45) ?_
                      refine lv_astore (lv' := [(6, .ref (qS q d_45 0)), (0, .ref (q 0)), (1, .int z0), (2, .int d), (3, .int d2), (4, .int n), (5, .int w)]) hx hb dX6_parted_52 hl (by decide) rfl (fun ls hl => ?_)
                      refine lv_aload hx hb dX6_parted_54 (lv_at hl 0 rfl) ?_
                      refine zcS_i (w := (zX k q z)) (wc := (zS k (qS q d_45) (xS z d_45))) (va_runV (As := []) (rest := []) ⟨hx, hb, hml, hown, htb⟩ (c_X5_isLost l dC dI k (qS q d_45) (xS z d_45) _ ) (cwV 0 htb (gzV wmt2_98 wmt2_99 wmt2_100 wmt1_7 wmt2_101) rfl rfl rfl (by decide +kernel) ⟨Nat.le_of_ble_eq_true rfl, Nat.le_of_ble_eq_true rfl⟩) (zp_V (ci := 5) (q0 := (28 + 2 * d_45)) hK hP (hDa _) [28 + 2 * d_45, 29 + 2 * d_45] (zX_SC hd_45) (zX_ndS hd_45) rfl (zX_S0 hd_45)) rfl rfl hl.1 rfl (lv_room (Nat.le_of_ble_eq_true rfl)) dX6_parted_56 ⟨Nat.le_of_ble_eq_true rfl, Nat.le_of_ble_eq_true rfl⟩) hP (hDa _) hS hA [28 + 2 * d_45, 29 + 2 * d_45] (zX_SC hd_45) (fun _ => rfl) (fun r_46 u_47 H locs w_48 hP _ hS => ?_)
                      have hP : va_P (dC, dI) vwCl (zX k q z) H := (zX_Skeep hd_45) ▸ hP
                      rcases w_48 with ⟨e_50, h_49⟩ | ⟨e_52, h_51⟩
                      · skip
                        replace e_50 : r_46 = 1 := e_50
                        subst e_50
                        replace h_49 : ((xS z d_45).1 0).toInt = -1 := h_49
                        refine lv_if_eq (tgt := 71) hx hb dX6_parted_59 (by decide) (fun c_53 => ?_) (fun c_53 => ?_)
                        · skip
                          exact absurd c_53 (by decide)
                        · skip
                          refine lv_aload_n hx hb dX6_parted_62 rfl (lv_at hl 1 rfl) ?_
                          refine lv_iconst (v := 1) hx hb dX6_parted_63 (by decide) ?_
                          refine zcA_i (w := (zX k q z)) (va_runV (As := [.int 1]) (rest := []) ⟨hx, hb, hml, hown, htb⟩ (c_X6_found l dC dI k q z 1 _ hI) (cwV 1 htb (gzV wmt2_102 wmt2_104 wmp1_7 wmt1_1 wmt2_105) rfl rfl rfl (by decide +kernel) ⟨Nat.le_of_ble_eq_true rfl, Nat.le_of_ble_eq_true rfl⟩) (zpA_V (ci := 6) (q0 := 0) hK hP (hDa _) rfl rfl) rfl rfl hl.1 rfl (lv_room (Nat.le_of_ble_eq_true rfl)) dX6_parted_64 ⟨Nat.le_of_ble_eq_true rfl, Nat.le_of_ble_eq_true rfl⟩) (hDa _) hS hA (fun r_54 u_55 H locs w_56 hP _ hS => ?_)
                          obtain ⟨h_57, h_58, h_59⟩ := w_56
                          replace h_57 : XInv u_55 := h_57
                          replace h_58 : trX u_55 = trX z := h_58
                          replace h_59 : r_54 = (-10) - (1 : Int32) := h_59
                          have hI := h_57
                          have hT := h_58.trans hT
                          refine zc0_l (w := (zX k q u_55)) (va_runS (As := [.int r_54]) (rest := []) ⟨hx, hb, hml, hown, htb⟩ (c_X6_asLong l dC dI k r_54 _ ) (va_cwS 1 htb (gzS wmt2_51 wmt2_52 wmt1_1 wmt2_53) rfl rfl rfl (by decide +kernel) ⟨Nat.le_of_ble_eq_true rfl, Nat.le_of_ble_eq_true rfl⟩) (zp0_S hK) rfl rfl hl.1 rfl (lv_room (Nat.le_of_ble_eq_true rfl)) dX6_parted_67 ⟨Nat.le_of_ble_eq_true rfl, Nat.le_of_ble_eq_true rfl⟩) hP hS hA (fun r_61 u_62 H locs w_63 hP hS => ?_)
                          have h_64 := w_63
                          replace h_64 : r_61.toInt = tl r_54 := h_64
                          exact W.lret (v := r_61) hx hb hr (fun t ht hW => ⟨⟨r_61, u_55, rfl, ⟨hI, hT⟩, ⟨by rw [ht]; exact hP, hDa _⟩⟩, hS.F ht⟩) hS.2.2 dX6_parted_70
                      · skip
                        replace e_52 : r_46 = 0 := e_52
                        subst e_52
                        replace h_51 : ¬ ((xS z d_45).1 0).toInt = -1 := h_51
                        refine lv_if_eq (tgt := 71) hx hb dX6_parted_59 (by decide) (fun c_66 => ?_) (fun c_66 => ?_)
                        · skip
                          refine lv_aload hx hb dX6_parted_71 (lv_at hl 0 rfl) ?_
                          refine va_get (D := (dC, dI)) (ci := 5) (v := .int (z.1 (34 + 2 * d_45 + 1))) (C := RX5) (T := TX5) (N := 3) hx hb htb inw5 hown hK.1 hP (28 + 2 * d_45) (zX_S0 hd_45) rfl 2 (by decide) (htb _ wmt1_162) (fun _ h9 => h9) rfl dX6_parted_73 ?_
                          refine lv_topi (fun x_67 ex_67 => ?_)
                          have hx_67 : x_67.toInt = (z.1 (34 + 2 * d_45 + 1)).toInt := by rw [ex_67]
                          refine lv_iconst (v := 4) hx hb dX6_parted_76 (by decide) ?_
                          refine lv_icmp_ge (tgt := 89) hx hb dX6_parted_77 (by decide) (fun c_68 => ?_) (fun c_68 => ?_)
                          · skip
                            have hc_68 := zb_le (show (4 : Int32).toInt = 4 by decide) rfl c_68
                            refine lv_aload_n hx hb dX6_parted_89 rfl (lv_at hl 1 rfl) ?_
                            refine va_get (D := (dC, dI)) (ci := 6) (v := .ref (q 1)) (C := RX6) (T := TX6) (N := 12) hx hb htb inw6 hown hK.1 hP 0 rfl rfl 0 (by decide) (htb _ wmt1_170) (fun _ h9 => h9) rfl dX6_parted_90 ?_
                            refine lv_iload_n hx hb dX6_parted_93 rfl (lv_at hl 3 rfl) ?_
                            refine va_aldq (D := (dC, dI)) hx hb hK.1 hP 1 3 rfl rfl (z_in (by omega)) dX6_parted_94 ?_
                            obtain ⟨d_69, ed_69⟩ : ∃ x : Nat, x = d.toNatClampNeg := ⟨_, rfl⟩
                            have hd_69 : d_69 < 4 := by rw [ed_69]; exact z_cl4 (by omega)
                            refine z_top (v2 := .ref (qD q d_69 0)) (zgD_at2 ed_69 hd_69) ?_
                            refine lv_astore (lv' := [(7, .ref (qD q d_69 0)), (6, .ref (qS q d_45 0)), (0, .ref (q 0)), (1, .int z0), (2, .int d), (3, .int d2), (4, .int n), (5, .int w)]) hx hb dX6_parted_95 hl (by decide) rfl (fun ls hl => ?_)
                            refine lv_aload_n hx hb dX6_parted_97 rfl (lv_at hl 2 rfl) ?_
                            refine va_get (D := (dC, dI)) (ci := 6) (v := .ref (q 1)) (C := RX6) (T := TX6) (N := 12) hx hb htb inw6 hown hK.1 hP 0 rfl rfl 0 (by decide) (htb _ wmt1_170) (fun _ h9 => h9) rfl dX6_parted_98 ?_
                            refine lv_iload_n hx hb dX6_parted_101 rfl (lv_at hl 5 rfl) ?_
                            refine va_aldq (D := (dC, dI)) hx hb hK.1 hP 1 3 rfl rfl (z_in (by omega)) dX6_parted_102 ?_
                            obtain ⟨d_70, ed_70⟩ : ∃ x : Nat, x = d2.toNatClampNeg := ⟨_, rfl⟩
                            have hd_70 : d_70 < 4 := by rw [ed_70]; exact z_cl4 (by omega)
                            refine z_top (v2 := .ref (qD q d_70 0)) (zgD_at2 ed_70 hd_70) ?_
                            refine lv_astore (lv' := [(8, .ref (qD q d_70 0)), (7, .ref (qD q d_69 0)), (6, .ref (qS q d_45 0)), (0, .ref (q 0)), (1, .int z0), (2, .int d), (3, .int d2), (4, .int n), (5, .int w)]) hx hb dX6_parted_103 hl (by decide) rfl (fun ls hl => ?_)
                            refine lv_aload hx hb dX6_parted_105 (lv_at hl 2 rfl) ?_
                            refine zcS_l (w := (zX k q z)) (wc := (zS k (qS q d_45) (xS z d_45))) (va_runS (As := [.ref (qS q d_45 0)]) (rest := []) ⟨hx, hb, hml, hown, htb⟩ (c_X6_peopleCounted l dC dI k (qS q d_45) (xS z d_45) _ ) (va_cwS 1 htb (gzS wmt3_69 wmt3_70 wmt1_1 wmt3_71) rfl rfl rfl (by decide +kernel) ⟨Nat.le_of_ble_eq_true rfl, Nat.le_of_ble_eq_true rfl⟩) (zp_S hK hP (hDa _) [28 + 2 * d_45, 29 + 2 * d_45] (zX_SC hd_45) (zX_ndS hd_45)) rfl rfl hl.1 rfl (lv_room (Nat.le_of_ble_eq_true rfl)) dX6_parted_107 ⟨Nat.le_of_ble_eq_true rfl, Nat.le_of_ble_eq_true rfl⟩) hP (hDa _) hS hA [28 + 2 * d_45, 29 + 2 * d_45] (zX_SC hd_45) (fun _ => rfl) (fun r_71 u_72 H locs w_73 hP _ hS => ?_)
                            have hP : va_P (dC, dI) vwCl (zX k q z) H := (zX_Skeep hd_45) ▸ hP
                            refine lv_lstore (lv' := [(9, .long r_71), (8, .ref (qD q d_70 0)), (7, .ref (qD q d_69 0)), (6, .ref (qS q d_45 0)), (0, .ref (q 0)), (1, .int z0), (2, .int d), (3, .int d2), (4, .int n), (5, .int w)]) hx hb dX6_parted_110 hl (by decide) rfl (fun ls hl => ?_)
                            refine lv_aload hx hb dX6_parted_112 (lv_at hl 2 rfl) ?_
                            refine zcS_i (w := (zX k q z)) (wc := (zD k (qD q d_69) (xD z d_69))) (va_runV (As := []) (rest := []) ⟨hx, hb, hml, hown, htb⟩ (c_X1_isFaulty l dC dI k (qD q d_69) (xD z d_69) _ ) (cwV 0 htb (gzV wmt2_55 wmt2_20 wmt2_21 wmt1_6 wmt2_22) rfl rfl rfl (by decide +kernel) ⟨Nat.le_of_ble_eq_true rfl, Nat.le_of_ble_eq_true rfl⟩) (zp_V (ci := 1) (q0 := (16 + 3 * d_69)) hK hP (hDa _) [16 + 3 * d_69, 17 + 3 * d_69, 18 + 3 * d_69] (zX_DC hd_69) (zX_ndD hd_69) rfl (zX_D0 hd_69)) rfl rfl hl.1 rfl (lv_room (Nat.le_of_ble_eq_true rfl)) dX6_parted_114 ⟨Nat.le_of_ble_eq_true rfl, Nat.le_of_ble_eq_true rfl⟩) hP (hDa _) hS hA [16 + 3 * d_69, 17 + 3 * d_69, 18 + 3 * d_69] (zX_DC hd_69) (fun _ => rfl) (fun r_74 u_75 H locs w_76 hP _ hS => ?_)
                            have hP : va_P (dC, dI) vwCl (zX k q z) H := (zX_Dkeep hd_69) ▸ hP
                            rcases w_76 with ⟨e_78, h_77⟩ | ⟨e_80, h_79⟩
                            · skip
                              replace e_78 : r_74 = 1 := e_78
                              subst e_78
                              replace h_77 : ¬ ((xD z d_69).1 2).toInt = -1 := h_77
                              refine lv_if_ne (tgt := 151) hx hb dX6_parted_117 (by decide) (fun c_81 => ?_) (fun c_81 => ?_)
                              · skip
                                refine lv_bipush (v := (-3)) hx hb dX6_parted_151 (by decide) ?_
                                refine zc0_l (w := (zX k q z)) (va_runS (As := [.int (-3)]) (rest := []) ⟨hx, hb, hml, hown, htb⟩ (c_X6_asLong l dC dI k (-3) _ ) (va_cwS 1 htb (gzS wmt2_51 wmt2_52 wmt1_1 wmt2_53) rfl rfl rfl (by decide +kernel) ⟨Nat.le_of_ble_eq_true rfl, Nat.le_of_ble_eq_true rfl⟩) (zp0_S hK) rfl rfl hl.1 rfl (lv_room (Nat.le_of_ble_eq_true rfl)) dX6_parted_153 ⟨Nat.le_of_ble_eq_true rfl, Nat.le_of_ble_eq_true rfl⟩) hP hS hA (fun r_82 u_83 H locs w_84 hP hS => ?_)
                                have h_85 := w_84
                                replace h_85 : r_82.toInt = tl ((-3) : Int32) := h_85
                                exact W.lret (v := r_82) hx hb hr (fun t ht hW => ⟨⟨r_82, z, rfl, ⟨hI, hT⟩, ⟨by rw [ht]; exact hP, hDa _⟩⟩, hS.F ht⟩) hS.2.2 dX6_parted_156
                              · skip
                                exact absurd c_81 (by decide)
                            · skip
                              replace e_80 : r_74 = 0 := e_80
                              subst e_80
                              replace h_79 : ((xD z d_69).1 2).toInt = -1 := h_79
                              refine lv_if_ne (tgt := 151) hx hb dX6_parted_117 (by decide) (fun c_87 => ?_) (fun c_87 => ?_)
                              · skip
                                exact absurd c_87 (by decide)
                              · skip
                                refine lv_aload hx hb dX6_parted_120 (lv_at hl 1 rfl) ?_
                                refine zcS_i (w := (zX k q z)) (wc := (zD k (qD q d_70) (xD z d_70))) (va_runV (As := []) (rest := []) ⟨hx, hb, hml, hown, htb⟩ (c_X1_isFaulty l dC dI k (qD q d_70) (xD z d_70) _ ) (cwV 0 htb (gzV wmt2_55 wmt2_20 wmt2_21 wmt1_6 wmt2_22) rfl rfl rfl (by decide +kernel) ⟨Nat.le_of_ble_eq_true rfl, Nat.le_of_ble_eq_true rfl⟩) (zp_V (ci := 1) (q0 := (16 + 3 * d_70)) hK hP (hDa _) [16 + 3 * d_70, 17 + 3 * d_70, 18 + 3 * d_70] (zX_DC hd_70) (zX_ndD hd_70) rfl (zX_D0 hd_70)) rfl rfl hl.1 rfl (lv_room (Nat.le_of_ble_eq_true rfl)) dX6_parted_122 ⟨Nat.le_of_ble_eq_true rfl, Nat.le_of_ble_eq_true rfl⟩) hP (hDa _) hS hA [16 + 3 * d_70, 17 + 3 * d_70, 18 + 3 * d_70] (zX_DC hd_70) (fun _ => rfl) (fun r_88 u_89 H locs w_90 hP _ hS => ?_)
                                have hP : va_P (dC, dI) vwCl (zX k q z) H := (zX_Dkeep hd_70) ▸ hP
                                rcases w_90 with ⟨e_92, h_91⟩ | ⟨e_94, h_93⟩
                                · skip
                                  replace e_92 : r_88 = 1 := e_92
                                  subst e_92
                                  replace h_91 : ¬ ((xD z d_70).1 2).toInt = -1 := h_91
                                  refine lv_if_ne (tgt := 151) hx hb dX6_parted_125 (by decide) (fun c_95 => ?_) (fun c_95 => ?_)
                                  · skip
                                    refine lv_bipush (v := (-3)) hx hb dX6_parted_151 (by decide) ?_
                                    refine zc0_l (w := (zX k q z)) (va_runS (As := [.int (-3)]) (rest := []) ⟨hx, hb, hml, hown, htb⟩ (c_X6_asLong l dC dI k (-3) _ ) (va_cwS 1 htb (gzS wmt2_51 wmt2_52 wmt1_1 wmt2_53) rfl rfl rfl (by decide +kernel) ⟨Nat.le_of_ble_eq_true rfl, Nat.le_of_ble_eq_true rfl⟩) (zp0_S hK) rfl rfl hl.1 rfl (lv_room (Nat.le_of_ble_eq_true rfl)) dX6_parted_153 ⟨Nat.le_of_ble_eq_true rfl, Nat.le_of_ble_eq_true rfl⟩) hP hS hA (fun r_96 u_97 H locs w_98 hP hS => ?_)
                                    have h_99 := w_98
                                    replace h_99 : r_96.toInt = tl ((-3) : Int32) := h_99
                                    exact W.lret (v := r_96) hx hb hr (fun t ht hW => ⟨⟨r_96, z, rfl, ⟨hI, hT⟩, ⟨by rw [ht]; exact hP, hDa _⟩⟩, hS.F ht⟩) hS.2.2 dX6_parted_156
                                  · skip
                                    exact absurd c_95 (by decide)
                                · skip
                                  replace e_94 : r_88 = 0 := e_94
                                  subst e_94
                                  replace h_93 : ((xD z d_70).1 2).toInt = -1 := h_93
                                  refine lv_if_ne (tgt := 151) hx hb dX6_parted_125 (by decide) (fun c_101 => ?_) (fun c_101 => ?_)
                                  · skip
                                    exact absurd c_101 (by decide)
                                  · skip
                                    refine lv_aload hx hb dX6_parted_128 (lv_at hl 2 rfl) ?_
                                    refine zcS_i (w := (zX k q z)) (wc := (zD k (qD q d_69) (xD z d_69))) (va_runV (As := []) (rest := []) ⟨hx, hb, hml, hown, htb⟩ (c_X1_tells l dC dI k (qD q d_69) (xD z d_69) _ ) (cwV 0 htb (gzV wmt2_154 wmt2_155 wmt2_156 wmt1_6 wmt2_157) rfl rfl rfl (by decide +kernel) ⟨Nat.le_of_ble_eq_true rfl, Nat.le_of_ble_eq_true rfl⟩) (zp_V (ci := 1) (q0 := (16 + 3 * d_69)) hK hP (hDa _) [16 + 3 * d_69, 17 + 3 * d_69, 18 + 3 * d_69] (zX_DC hd_69) (zX_ndD hd_69) rfl (zX_D0 hd_69)) rfl rfl hl.1 rfl (lv_room (Nat.le_of_ble_eq_true rfl)) dX6_parted_130 ⟨Nat.le_of_ble_eq_true rfl, Nat.le_of_ble_eq_true rfl⟩) hP (hDa _) hS hA [16 + 3 * d_69, 17 + 3 * d_69, 18 + 3 * d_69] (zX_DC hd_69) (fun _ => rfl) (fun r_102 u_103 H locs w_104 hP _ hS => ?_)
                                    have hP : va_P (dC, dI) vwCl (zX k q z) H := (zX_Dkeep hd_69) ▸ hP
                                    refine lv_if_eq (tgt := 151) hx hb dX6_parted_133 (by decide) (fun c_105 => ?_) (fun c_105 => ?_)
                                    · skip
                                      have hc_105 := zb_eq rfl (show (0 : Int32).toInt = 0 by decide) c_105
                                      refine lv_bipush (v := (-3)) hx hb dX6_parted_151 (by decide) ?_
                                      refine zc0_l (w := (zX k q z)) (va_runS (As := [.int (-3)]) (rest := []) ⟨hx, hb, hml, hown, htb⟩ (c_X6_asLong l dC dI k (-3) _ ) (va_cwS 1 htb (gzS wmt2_51 wmt2_52 wmt1_1 wmt2_53) rfl rfl rfl (by decide +kernel) ⟨Nat.le_of_ble_eq_true rfl, Nat.le_of_ble_eq_true rfl⟩) (zp0_S hK) rfl rfl hl.1 rfl (lv_room (Nat.le_of_ble_eq_true rfl)) dX6_parted_153 ⟨Nat.le_of_ble_eq_true rfl, Nat.le_of_ble_eq_true rfl⟩) hP hS hA (fun r_106 u_107 H locs w_108 hP hS => ?_)
                                      have h_109 := w_108
                                      replace h_109 : r_106.toInt = tl ((-3) : Int32) := h_109
                                      exact W.lret (v := r_106) hx hb hr (fun t ht hW => ⟨⟨r_106, z, rfl, ⟨hI, hT⟩, ⟨by rw [ht]; exact hP, hDa _⟩⟩, hS.F ht⟩) hS.2.2 dX6_parted_156
                                    · skip
                                      have hc_105 := zb_ne rfl (show (0 : Int32).toInt = 0 by decide) c_105
                                      refine lv_aload hx hb dX6_parted_136 (lv_at hl 1 rfl) ?_
                                      refine zcS_i (w := (zX k q z)) (wc := (zD k (qD q d_70) (xD z d_70))) (va_runV (As := []) (rest := []) ⟨hx, hb, hml, hown, htb⟩ (c_X1_tells l dC dI k (qD q d_70) (xD z d_70) _ ) (cwV 0 htb (gzV wmt2_154 wmt2_155 wmt2_156 wmt1_6 wmt2_157) rfl rfl rfl (by decide +kernel) ⟨Nat.le_of_ble_eq_true rfl, Nat.le_of_ble_eq_true rfl⟩) (zp_V (ci := 1) (q0 := (16 + 3 * d_70)) hK hP (hDa _) [16 + 3 * d_70, 17 + 3 * d_70, 18 + 3 * d_70] (zX_DC hd_70) (zX_ndD hd_70) rfl (zX_D0 hd_70)) rfl rfl hl.1 rfl (lv_room (Nat.le_of_ble_eq_true rfl)) dX6_parted_138 ⟨Nat.le_of_ble_eq_true rfl, Nat.le_of_ble_eq_true rfl⟩) hP (hDa _) hS hA [16 + 3 * d_70, 17 + 3 * d_70, 18 + 3 * d_70] (zX_DC hd_70) (fun _ => rfl) (fun r_111 u_112 H locs w_113 hP _ hS => ?_)
                                      have hP : va_P (dC, dI) vwCl (zX k q z) H := (zX_Dkeep hd_70) ▸ hP
                                      refine lv_if_eq (tgt := 151) hx hb dX6_parted_141 (by decide) (fun c_114 => ?_) (fun c_114 => ?_)
                                      · skip
                                        have hc_114 := zb_eq rfl (show (0 : Int32).toInt = 0 by decide) c_114
                                        refine lv_bipush (v := (-3)) hx hb dX6_parted_151 (by decide) ?_
                                        refine zc0_l (w := (zX k q z)) (va_runS (As := [.int (-3)]) (rest := []) ⟨hx, hb, hml, hown, htb⟩ (c_X6_asLong l dC dI k (-3) _ ) (va_cwS 1 htb (gzS wmt2_51 wmt2_52 wmt1_1 wmt2_53) rfl rfl rfl (by decide +kernel) ⟨Nat.le_of_ble_eq_true rfl, Nat.le_of_ble_eq_true rfl⟩) (zp0_S hK) rfl rfl hl.1 rfl (lv_room (Nat.le_of_ble_eq_true rfl)) dX6_parted_153 ⟨Nat.le_of_ble_eq_true rfl, Nat.le_of_ble_eq_true rfl⟩) hP hS hA (fun r_115 u_116 H locs w_117 hP hS => ?_)
                                        have h_118 := w_117
                                        replace h_118 : r_115.toInt = tl ((-3) : Int32) := h_118
                                        exact W.lret (v := r_115) hx hb hr (fun t ht hW => ⟨⟨r_115, z, rfl, ⟨hI, hT⟩, ⟨by rw [ht]; exact hP, hDa _⟩⟩, hS.F ht⟩) hS.2.2 dX6_parted_156
                                      · skip
                                        have hc_114 := zb_ne rfl (show (0 : Int32).toInt = 0 by decide) c_114
                                        refine lv_lload hx hb dX6_parted_144 (lv_at hl 0 rfl) ?_
                                        refine lv_lconst (v := 1) hx hb dX6_parted_146 (by decide) ?_
                                        refine z_lcmp hx hb dX6_parted_147 ?_
                                        refine lv_if_ge (tgt := 157) hx hb dX6_parted_148 (by decide) (fun c_120 => ?_) (fun c_120 => ?_)
                                        · skip
                                          have hc_120 := zl_ge rfl (show (1 : Int64).toInt = 1 by decide) c_120
                                          refine lv_aload_n hx hb dX6_parted_157 rfl (lv_at hl 4 rfl) ?_
                                          refine lv_aload hx hb dX6_parted_158 (lv_at hl 3 rfl) ?_
                                          refine lv_aload hx hb dX6_parted_160 (lv_at hl 2 rfl) ?_
                                          refine lv_aload hx hb dX6_parted_162 (lv_at hl 1 rfl) ?_
                                          refine lv_iload hx hb dX6_parted_164 (lv_at hl 8 rfl) ?_
                                          refine lv_lload hx hb dX6_parted_166 (lv_at hl 0 rfl) ?_
                                          refine zcA_v (w := (zX k q z)) (va_runV (As := [.ref (qS q d_45 0), .ref (qD q d_69 0), .ref (qD q d_70 0), .int n, .long r_71]) (rest := []) ⟨hx, hb, hml, hown, htb⟩ (c_X6_part l dC dI k q z d_45 d_69 d_70 n r_71 _ hI hd_45 hd_69 hd_70) (cwV 5 htb (gzV wmt3_73 wmt3_75 wmp2_4 wmt1_1 wmt3_76) rfl rfl rfl (by decide +kernel) ⟨Nat.le_of_ble_eq_true rfl, Nat.le_of_ble_eq_true rfl⟩) (zpA_V (ci := 6) (q0 := 0) hK hP (hDa _) rfl rfl) rfl rfl hl.1 rfl (lv_room (Nat.le_of_ble_eq_true rfl)) dX6_parted_168 ⟨Nat.le_of_ble_eq_true rfl, Nat.le_of_ble_eq_true rfl⟩) (hDa _) hS hA (fun u_122 H locs w_123 hP _ hS => ?_)
                                          obtain ⟨h_124, h_125⟩ := w_123
                                          replace h_124 : XInv u_122 := h_124
                                          replace h_125 : trX u_122 = trX z := h_125
                                          have hI := h_124
                                          have hT := h_125.trans hT
                                          refine lv_aload_n hx hb dX6_parted_171 rfl (lv_at hl 4 rfl) ?_
                                          refine va_get (D := (dC, dI)) (ci := 6) (v := .ref (q 15)) (C := RX6) (T := TX6) (N := 12) hx hb htb inw6 hown hK.1 hP 0 rfl rfl 6 (by decide) (htb _ wmt1_176) (fun _ h9 => h9) rfl dX6_parted_172 ?_
                                          refine lv_iload hx hb dX6_parted_175 (lv_at hl 9 rfl) ?_
                                          refine zcS_l (w := (zX k q u_122)) (wc := (zF k (qof q 15) (xF u_122))) (va_runV (As := [.int w]) (rest := []) ⟨hx, hb, hml, hown, htb⟩ (c_X2_told l dC dI k (qof q 15) (xF u_122) w _ ) (cwV 1 htb (gzV wmt2_61 wmt2_62 wmt2_63 wmt1_5 wmt2_64) rfl rfl rfl (by decide +kernel) ⟨Nat.le_of_ble_eq_true rfl, Nat.le_of_ble_eq_true rfl⟩) (zp_V (ci := 2) (q0 := 15) hK hP (hDa _) [15] rfl (by decide) rfl rfl) rfl rfl hl.1 rfl (lv_room (Nat.le_of_ble_eq_true rfl)) dX6_parted_177 ⟨Nat.le_of_ble_eq_true rfl, Nat.le_of_ble_eq_true rfl⟩) hP (hDa _) hS hA [15] rfl (fun _ => rfl) (fun r_127 u_128 H locs w_129 hP _ hS => ?_)
                                          have hP : va_P (dC, dI) vwCl (zX k q u_122) H := hP
                                          have h_130 := w_129
                                          replace h_130 : (w.toInt = 0 → r_127 = (xF u_122).2.1 0) ∧ (¬ w.toInt = 0 → r_127 = (xF u_122).2.1 1) := h_130
                                          exact W.lret (v := r_127) hx hb hr (fun t ht hW => ⟨⟨r_127, u_122, rfl, ⟨hI, hT⟩, ⟨by rw [ht]; exact hP, hDa _⟩⟩, hS.F ht⟩) hS.2.2 dX6_parted_180
                                        · skip
                                          have hc_120 := zl_nge rfl (show (1 : Int64).toInt = 1 by decide) c_120
                                          refine lv_bipush (v := (-3)) hx hb dX6_parted_151 (by decide) ?_
                                          refine zc0_l (w := (zX k q z)) (va_runS (As := [.int (-3)]) (rest := []) ⟨hx, hb, hml, hown, htb⟩ (c_X6_asLong l dC dI k (-3) _ ) (va_cwS 1 htb (gzS wmt2_51 wmt2_52 wmt1_1 wmt2_53) rfl rfl rfl (by decide +kernel) ⟨Nat.le_of_ble_eq_true rfl, Nat.le_of_ble_eq_true rfl⟩) (zp0_S hK) rfl rfl hl.1 rfl (lv_room (Nat.le_of_ble_eq_true rfl)) dX6_parted_153 ⟨Nat.le_of_ble_eq_true rfl, Nat.le_of_ble_eq_true rfl⟩) hP hS hA (fun r_132 u_133 H locs w_134 hP hS => ?_)
                                          have h_135 := w_134
                                          replace h_135 : r_132.toInt = tl ((-3) : Int32) := h_135
                                          exact W.lret (v := r_132) hx hb hr (fun t ht hW => ⟨⟨r_132, z, rfl, ⟨hI, hT⟩, ⟨by rw [ht]; exact hP, hDa _⟩⟩, hS.F ht⟩) hS.2.2 dX6_parted_156
                          · skip
                            have hc_68 := zb_nle (show (4 : Int32).toInt = 4 by decide) rfl c_68
                            refine lv_aload_n hx hb dX6_parted_80 rfl (lv_at hl 1 rfl) ?_
                            refine lv_iconst (v := 2) hx hb dX6_parted_81 (by decide) ?_
                            refine zcA_i (w := (zX k q z)) (va_runV (As := [.int 2]) (rest := []) ⟨hx, hb, hml, hown, htb⟩ (c_X6_found l dC dI k q z 2 _ hI) (cwV 1 htb (gzV wmt2_102 wmt2_104 wmp1_7 wmt1_1 wmt2_105) rfl rfl rfl (by decide +kernel) ⟨Nat.le_of_ble_eq_true rfl, Nat.le_of_ble_eq_true rfl⟩) (zpA_V (ci := 6) (q0 := 0) hK hP (hDa _) rfl rfl) rfl rfl hl.1 rfl (lv_room (Nat.le_of_ble_eq_true rfl)) dX6_parted_82 ⟨Nat.le_of_ble_eq_true rfl, Nat.le_of_ble_eq_true rfl⟩) (hDa _) hS hA (fun r_137 u_138 H locs w_139 hP _ hS => ?_)
                            obtain ⟨h_140, h_141, h_142⟩ := w_139
                            replace h_140 : XInv u_138 := h_140
                            replace h_141 : trX u_138 = trX z := h_141
                            replace h_142 : r_137 = (-10) - (2 : Int32) := h_142
                            have hI := h_140
                            have hT := h_141.trans hT
                            refine zc0_l (w := (zX k q u_138)) (va_runS (As := [.int r_137]) (rest := []) ⟨hx, hb, hml, hown, htb⟩ (c_X6_asLong l dC dI k r_137 _ ) (va_cwS 1 htb (gzS wmt2_51 wmt2_52 wmt1_1 wmt2_53) rfl rfl rfl (by decide +kernel) ⟨Nat.le_of_ble_eq_true rfl, Nat.le_of_ble_eq_true rfl⟩) (zp0_S hK) rfl rfl hl.1 rfl (lv_room (Nat.le_of_ble_eq_true rfl)) dX6_parted_85 ⟨Nat.le_of_ble_eq_true rfl, Nat.le_of_ble_eq_true rfl⟩) hP hS hA (fun r_144 u_145 H locs w_146 hP hS => ?_)
                            have h_147 := w_146
                            replace h_147 : r_144.toInt = tl r_137 := h_147
                            exact W.lret (v := r_144) hx hb hr (fun t ht hW => ⟨⟨r_144, u_138, rfl, ⟨hI, hT⟩, ⟨by rw [ht]; exact hP, hDa _⟩⟩, hS.F ht⟩) hS.2.2 dX6_parted_88
                        · skip
                          exact absurd (by decide) c_66
                    · skip
                      exact absurd c_44 (by decide)
                  · skip
                    replace e_43 : r_37 = 0 := e_43
                    subst e_43
                    replace h_42 : ¬ (0 ≤ w.toInt ∧ w.toInt < 2) := h_42
                    refine lv_if_ne (tgt := 46) hx hb dX6_parted_37 (by decide) (fun c_149 => ?_) (fun c_149 => ?_)
                    · skip
                      exact absurd c_149 (by decide)
                    · skip
                      refine lv_bipush (v := (-2)) hx hb dX6_parted_40 (by decide) ?_
                      refine zc0_l (w := (zX k q z)) (va_runS (As := [.int (-2)]) (rest := []) ⟨hx, hb, hml, hown, htb⟩ (c_X6_asLong l dC dI k (-2) _ ) (va_cwS 1 htb (gzS wmt2_51 wmt2_52 wmt1_1 wmt2_53) rfl rfl rfl (by decide +kernel) ⟨Nat.le_of_ble_eq_true rfl, Nat.le_of_ble_eq_true rfl⟩) (zp0_S hK) rfl rfl hl.1 rfl (lv_room (Nat.le_of_ble_eq_true rfl)) dX6_parted_42 ⟨Nat.le_of_ble_eq_true rfl, Nat.le_of_ble_eq_true rfl⟩) hP hS hA (fun r_150 u_151 H locs w_152 hP hS => ?_)
                      have h_153 := w_152
                      replace h_153 : r_150.toInt = tl ((-2) : Int32) := h_153
                      exact W.lret (v := r_150) hx hb hr (fun t ht hW => ⟨⟨r_150, z, rfl, ⟨hI, hT⟩, ⟨by rw [ht]; exact hP, hDa _⟩⟩, hS.F ht⟩) hS.2.2 dX6_parted_45
          · skip
            replace e_23 : r_17 = 0 := e_23
            subst e_23
            replace h_22 : ¬ (0 ≤ d2.toInt ∧ d2.toInt < 4) := h_22
            refine lv_if_eq (tgt := 40) hx hb dX6_parted_18 (by decide) (fun c_155 => ?_) (fun c_155 => ?_)
            · skip
              refine lv_bipush (v := (-2)) hx hb dX6_parted_40 (by decide) ?_
              refine zc0_l (w := (zX k q z)) (va_runS (As := [.int (-2)]) (rest := []) ⟨hx, hb, hml, hown, htb⟩ (c_X6_asLong l dC dI k (-2) _ ) (va_cwS 1 htb (gzS wmt2_51 wmt2_52 wmt1_1 wmt2_53) rfl rfl rfl (by decide +kernel) ⟨Nat.le_of_ble_eq_true rfl, Nat.le_of_ble_eq_true rfl⟩) (zp0_S hK) rfl rfl hl.1 rfl (lv_room (Nat.le_of_ble_eq_true rfl)) dX6_parted_42 ⟨Nat.le_of_ble_eq_true rfl, Nat.le_of_ble_eq_true rfl⟩) hP hS hA (fun r_156 u_157 H locs w_158 hP hS => ?_)
              have h_159 := w_158
              replace h_159 : r_156.toInt = tl ((-2) : Int32) := h_159
              exact W.lret (v := r_156) hx hb hr (fun t ht hW => ⟨⟨r_156, z, rfl, ⟨hI, hT⟩, ⟨by rw [ht]; exact hP, hDa _⟩⟩, hS.F ht⟩) hS.2.2 dX6_parted_45
            · skip
              exact absurd (by decide) c_155
      · skip
        replace e_15 : r_9 = 0 := e_15
        subst e_15
        replace h_14 : ¬ (0 ≤ d.toInt ∧ d.toInt < 4) := h_14
        refine lv_if_eq (tgt := 40) hx hb dX6_parted_11 (by decide) (fun c_161 => ?_) (fun c_161 => ?_)
        · skip
          refine lv_bipush (v := (-2)) hx hb dX6_parted_40 (by decide) ?_
          refine zc0_l (w := (zX k q z)) (va_runS (As := [.int (-2)]) (rest := []) ⟨hx, hb, hml, hown, htb⟩ (c_X6_asLong l dC dI k (-2) _ ) (va_cwS 1 htb (gzS wmt2_51 wmt2_52 wmt1_1 wmt2_53) rfl rfl rfl (by decide +kernel) ⟨Nat.le_of_ble_eq_true rfl, Nat.le_of_ble_eq_true rfl⟩) (zp0_S hK) rfl rfl hl.1 rfl (lv_room (Nat.le_of_ble_eq_true rfl)) dX6_parted_42 ⟨Nat.le_of_ble_eq_true rfl, Nat.le_of_ble_eq_true rfl⟩) hP hS hA (fun r_162 u_163 H locs w_164 hP hS => ?_)
          have h_165 := w_164
          replace h_165 : r_162.toInt = tl ((-2) : Int32) := h_165
          exact W.lret (v := r_162) hx hb hr (fun t ht hW => ⟨⟨r_162, z, rfl, ⟨hI, hT⟩, ⟨by rw [ht]; exact hP, hDa _⟩⟩, hS.F ht⟩) hS.2.2 dX6_parted_45
        · skip
          exact absurd (by decide) c_161
  · skip
    replace e_7 : r_1 = 0 := e_7
    subst e_7
    replace h_6 : ¬ (0 ≤ z0.toInt ∧ z0.toInt < 4) := h_6
    refine lv_if_eq (tgt := 40) hx hb dX6_parted_4 (by decide) (fun c_167 => ?_) (fun c_167 => ?_)
    · skip
      refine lv_bipush (v := (-2)) hx hb dX6_parted_40 (by decide) ?_
      refine zc0_l (w := (zX k q z)) (va_runS (As := [.int (-2)]) (rest := []) ⟨hx, hb, hml, hown, htb⟩ (c_X6_asLong l dC dI k (-2) _ ) (va_cwS 1 htb (gzS wmt2_51 wmt2_52 wmt1_1 wmt2_53) rfl rfl rfl (by decide +kernel) ⟨Nat.le_of_ble_eq_true rfl, Nat.le_of_ble_eq_true rfl⟩) (zp0_S hK) rfl rfl hl.1 rfl (lv_room (Nat.le_of_ble_eq_true rfl)) dX6_parted_42 ⟨Nat.le_of_ble_eq_true rfl, Nat.le_of_ble_eq_true rfl⟩) hP hS hA (fun r_168 u_169 H locs w_170 hP hS => ?_)
      have h_171 := w_170
      replace h_171 : r_168.toInt = tl ((-2) : Int32) := h_171
      exact W.lret (v := r_168) hx hb hr (fun t ht hW => ⟨⟨r_168, z, rfl, ⟨hI, hT⟩, ⟨by rw [ht]; exact hP, hDa _⟩⟩, hS.F ht⟩) hS.2.2 dX6_parted_45
    · skip
      exact absurd (by decide) c_167
set_option maxHeartbeats 4000000 in
set_option maxRecDepth 100000 in
theorem c_X6_sheet (l : Launch) (dC : Nat → ClassId) (dI : Nat → Nat → Nat) (k : Nat → ClassId) (q : Nat → Nat) (z : ZS) (z0 : Int32) (ty : Int32) (n : Int32) (sz : Nat) (hI : XInv z) : Met l yX6_sheet (wz yX6_sheet cX6_sheet 4 (some .int)) ({ frames := 2, cells := 0, slots := 0, locals := 45 }) (va_Pc [.ref (q 0), .int z0, .int ty, .int n] (zPre dC dI k (zTX k) (zX k q z) sz)) (va_Qi (fun (r : Int32) (u : ZS) => (XInv u) ∧ ((r, trX u) = tSheet (trX z) z0 ty n)) (fun u t => zPost dC dI (va_A (zX k q z) sz) (zX k q u) t) (va_A (zX k q z) sz)) 0 0 (va_A (zX k q z) sz) := by
  refine Met.ofW (cc := cX6_sheet) (maxL := 4) (ret := (some .int)) (by decide) rfl ?_
  intro p e s m args below meth c s₁ B hml hv
  obtain ⟨rfl, hsz, hP, hK, hD0⟩ := hv
  have hx := B.exec
  have hb := B.bytes
  have hr := B.returns
  have hts := atoms_spec (ws := wz yX6_sheet cX6_sheet 4 (some .int)) B.pre
  have htb : ∀ w ∈ zw, w.before _ s = true := fun w h => hts w (List.mem_cons_of_mem _ h)
  have hown : s.vm.findClass RX6 = some m.cls := findClass_of_methodNamed B.named
  have hlocks := B.notSynchronized
  clear hts
  subst hsz
  have hD := hD0.self (sz := s.heap.size)
  generalize hAe : va_A (zX k q z) s.heap.size = A at hD ⊢
  have hA : ∀ q : Nat, s.heap.size ≤ q → A q := fun q h => by rw [← hAe]; exact Or.inr h
  have hDa : ∀ z9 : ZS, va_D A (zX k q z9) := fun z9 => va_D_adr (w := zX k q z) rfl hD
  have hl := lv_entry ([.ref (q 0), .int z0, .int ty, .int n]) (n := 4) (Nat.le_of_ble_eq_true rfl)
  rw [lg_entry_eq]
  generalize (lg_sl ([.ref (q 0), .int z0, .int ty, .int n]) ++ List.replicate (4 - (lg_sl ([.ref (q 0), .int z0, .int ty, .int n])).length) Slot.unset).toArray = ls at hl ⊢
  have hl : lv_has ls 4 [(0, .ref (q 0)), (1, .int z0), (2, .int ty), (3, .int n)] := hl
  refine z_start2 (A := A) (w := (zX k q z)) hP (fun H locs hP hS => ?_)
  clear hD0 hAe
  have hT : trX z = trX z := rfl
  refine lv_iload_n hx hb dX6_sheet_0 rfl (lv_at hl 1 rfl) ?_
  refine zc0_i (w := (zX k q z)) (va_runS (As := [.int z0]) (rest := []) ⟨hx, hb, hml, hown, htb⟩ (c_X6_isSheet l dC dI k z0 _ ) (va_cwS 1 htb (gzS wmt2_95 wmt2_96 wmt1_1 wmt2_97) rfl rfl rfl (by decide +kernel) ⟨Nat.le_of_ble_eq_true rfl, Nat.le_of_ble_eq_true rfl⟩) (zp0_S hK) rfl rfl hl.1 rfl (lv_room (Nat.le_of_ble_eq_true rfl)) dX6_sheet_1 ⟨Nat.le_of_ble_eq_true rfl, Nat.le_of_ble_eq_true rfl⟩) hP hS hA (fun r_1 u_2 H locs w_3 hP hS => ?_)
  rcases w_3 with ⟨e_5, h_4⟩ | ⟨e_7, h_6⟩
  · skip
    replace e_5 : r_1 = 1 := e_5
    subst e_5
    replace h_4 : 0 ≤ z0.toInt ∧ z0.toInt < 4 := h_4
    refine lv_if_eq (tgt := 20) hx hb dX6_sheet_4 (by decide) (fun c_8 => ?_) (fun c_8 => ?_)
    · skip
      exact absurd c_8 (by decide)
    · skip
      refine lv_iload_n hx hb dX6_sheet_7 rfl (lv_at hl 2 rfl) ?_
      refine zc0_i (w := (zX k q z)) (va_runS (As := [.int ty]) (rest := []) ⟨hx, hb, hml, hown, htb⟩ (c_X6_isType l dC dI k ty _ ) (va_cwS 1 htb (gzS wmt3_89 wmt3_90 wmt1_1 wmt3_91) rfl rfl rfl (by decide +kernel) ⟨Nat.le_of_ble_eq_true rfl, Nat.le_of_ble_eq_true rfl⟩) (zp0_S hK) rfl rfl hl.1 rfl (lv_room (Nat.le_of_ble_eq_true rfl)) dX6_sheet_8 ⟨Nat.le_of_ble_eq_true rfl, Nat.le_of_ble_eq_true rfl⟩) hP hS hA (fun r_9 u_10 H locs w_11 hP hS => ?_)
      rcases w_11 with ⟨e_13, h_12⟩ | ⟨e_15, h_14⟩
      · skip
        replace e_13 : r_9 = 1 := e_13
        subst e_13
        replace h_12 : 0 ≤ ty.toInt ∧ ty.toInt < 3 := h_12
        refine lv_if_eq (tgt := 20) hx hb dX6_sheet_11 (by decide) (fun c_16 => ?_) (fun c_16 => ?_)
        · skip
          exact absurd c_16 (by decide)
        · skip
          refine lv_iload_n hx hb dX6_sheet_14 rfl (lv_at hl 3 rfl) ?_
          refine lv_bipush (v := 60) hx hb dX6_sheet_15 (by decide) ?_
          refine lv_icmp_le (tgt := 23) hx hb dX6_sheet_17 (by decide) (fun c_17 => ?_) (fun c_17 => ?_)
          · skip
            have hc_17 := zb_le rfl (show (60 : Int32).toInt = 60 by decide) c_17
            refine lv_iload_n hx hb dX6_sheet_23 rfl (lv_at hl 3 rfl) ?_
            refine lv_if_ge (tgt := 33) hx hb dX6_sheet_24 (by decide) (fun c_18 => ?_) (fun c_18 => ?_)
            · skip
              have hc_18 := zb_le (show (0 : Int32).toInt = 0 by decide) rfl c_18
              refine lv_aload_n hx hb dX6_sheet_33 rfl (lv_at hl 0 rfl) ?_
              refine va_get (D := (dC, dI)) (ci := 6) (v := .ref (q 2)) (C := RX6) (T := TX6) (N := 12) hx hb htb inw6 hown hK.1 hP 0 rfl rfl 1 (by decide) (htb _ wmt1_171) (fun _ h9 => h9) rfl dX6_sheet_34 ?_
              refine lv_iload_n hx hb dX6_sheet_37 rfl (lv_at hl 1 rfl) ?_
              refine va_aldq (D := (dC, dI)) hx hb hK.1 hP 2 4 rfl rfl (z_in (by omega)) dX6_sheet_38 ?_
              obtain ⟨d_19, ed_19⟩ : ∃ x : Nat, x = z0.toNatClampNeg := ⟨_, rfl⟩
              have hd_19 : d_19 < 4 := by rw [ed_19]; exact z_cl4 (by omega)
              refine z_top (v2 := .ref (qS q d_19 0)) (zgS_at2 ed_19 hd_19) ?_
              refine lv_iload_n hx hb dX6_sheet_39 rfl (lv_at hl 2 rfl) ?_
              refine lv_iload_n hx hb dX6_sheet_40 rfl (lv_at hl 3 rfl) ?_
              refine zcS_v (w := (zX k q z)) (wc := (zS k (qS q d_19) (xS z d_19))) (va_runV (As := [.int ty, .int n]) (rest := []) ⟨hx, hb, hml, hown, htb⟩ (c_X5_begin l dC dI k (qS q d_19) (xS z d_19) ty n _ ) (cwV 2 htb (gzV wmt3_92 wmt3_93 wmt3_94 wmt1_7 wmt3_95) rfl rfl rfl (by decide +kernel) ⟨Nat.le_of_ble_eq_true rfl, Nat.le_of_ble_eq_true rfl⟩) (zp_V (ci := 5) (q0 := (28 + 2 * d_19)) hK hP (hDa _) [28 + 2 * d_19, 29 + 2 * d_19] (zX_SC hd_19) (zX_ndS hd_19) rfl (zX_S0 hd_19)) rfl rfl hl.1 rfl (lv_room (Nat.le_of_ble_eq_true rfl)) dX6_sheet_41 ⟨Nat.le_of_ble_eq_true rfl, Nat.le_of_ble_eq_true rfl⟩) hP (hDa _) hS hA [28 + 2 * d_19, 29 + 2 * d_19] (zX_SC hd_19) (fun _ => rfl) (fun u_21 H locs w_22 hP _ hS => ?_)
              obtain ⟨z_23, ez_23⟩ : ∃ x : ZS, x = (xsS z d_19 u_21) := ⟨_, rfl⟩
              have hP : va_P (dC, dI) vwCl (zX k q z_23) H := by rw [ez_23]; exact (zX_Sset hd_19) ▸ hP
              obtain ⟨h_24, h_25, h_26⟩ := w_22
              replace h_24 : u_21.1 0 = ty := h_24
              replace h_25 : u_21.1 1 = n := h_25
              replace h_26 : cR (u_21.2.2.1 0) = fun _ => 0 := h_26
              have hI : XInv z_23 := by rw [ez_23]; exact XInv_xsS hd_19 hI (by rw [h_25]; exact ⟨by omega, by omega⟩)
              have hT : trX z_23 = (((trX z).1.set (8 + 2 * d_19) ty).set (9 + 2 * d_19) n, (trX z).2.1, (trX z).2.2.set (5 + d_19) (fun _ => 0)) := by rw [ez_23, trX_xsS hd_19, h_24, h_25, h_26]
              refine lv_iload_n hx hb dX6_sheet_44 rfl (lv_at hl 3 rfl) ?_
              exact W.iret (v := n) hx hb hr (fun t ht hW => ⟨⟨n, z_23, rfl, ⟨hI, tSheet_ok (by omega) (by omega) ed_19 hT⟩, ⟨by rw [ht]; exact hP, hDa _⟩⟩, hS.F ht⟩) hS.2.2 dX6_sheet_45
            · skip
              have hc_18 := zb_nle (show (0 : Int32).toInt = 0 by decide) rfl c_18
              refine lv_aload_n hx hb dX6_sheet_27 rfl (lv_at hl 0 rfl) ?_
              refine lv_iconst (v := 5) hx hb dX6_sheet_28 (by decide) ?_
              refine zcA_i (w := (zX k q z)) (va_runV (As := [.int 5]) (rest := []) ⟨hx, hb, hml, hown, htb⟩ (c_X6_found l dC dI k q z 5 _ hI) (cwV 1 htb (gzV wmt2_102 wmt2_104 wmp1_7 wmt1_1 wmt2_105) rfl rfl rfl (by decide +kernel) ⟨Nat.le_of_ble_eq_true rfl, Nat.le_of_ble_eq_true rfl⟩) (zpA_V (ci := 6) (q0 := 0) hK hP (hDa _) rfl rfl) rfl rfl hl.1 rfl (lv_room (Nat.le_of_ble_eq_true rfl)) dX6_sheet_29 ⟨Nat.le_of_ble_eq_true rfl, Nat.le_of_ble_eq_true rfl⟩) (hDa _) hS hA (fun r_28 u_29 H locs w_30 hP _ hS => ?_)
              obtain ⟨h_31, h_32, h_33⟩ := w_30
              replace h_31 : XInv u_29 := h_31
              replace h_32 : trX u_29 = trX z := h_32
              replace h_33 : r_28 = (-10) - (5 : Int32) := h_33
              have hI := h_31
              have hT := h_32.trans hT
              have hfd : r_28 = -15 := h_33.trans (by decide)
              exact W.iret (v := r_28) hx hb hr (fun t ht hW => ⟨⟨r_28, u_29, rfl, ⟨hI, tSheet_neg (by omega) (by omega) hfd hT⟩, ⟨by rw [ht]; exact hP, hDa _⟩⟩, hS.F ht⟩) hS.2.2 dX6_sheet_32
          · skip
            have hc_17 := zb_nle rfl (show (60 : Int32).toInt = 60 by decide) c_17
            refine lv_bipush (v := (-2)) hx hb dX6_sheet_20 (by decide) ?_
            exact W.iret (v := (-2)) hx hb hr (fun t ht hW => ⟨⟨(-2), z, rfl, ⟨hI, tSheet_bad (by omega)⟩, ⟨by rw [ht]; exact hP, hDa _⟩⟩, hS.F ht⟩) hS.2.2 dX6_sheet_22
      · skip
        replace e_15 : r_9 = 0 := e_15
        subst e_15
        replace h_14 : ¬ (0 ≤ ty.toInt ∧ ty.toInt < 3) := h_14
        refine lv_if_eq (tgt := 20) hx hb dX6_sheet_11 (by decide) (fun c_35 => ?_) (fun c_35 => ?_)
        · skip
          refine lv_bipush (v := (-2)) hx hb dX6_sheet_20 (by decide) ?_
          exact W.iret (v := (-2)) hx hb hr (fun t ht hW => ⟨⟨(-2), z, rfl, ⟨hI, tSheet_bad (by omega)⟩, ⟨by rw [ht]; exact hP, hDa _⟩⟩, hS.F ht⟩) hS.2.2 dX6_sheet_22
        · skip
          exact absurd (by decide) c_35
  · skip
    replace e_7 : r_1 = 0 := e_7
    subst e_7
    replace h_6 : ¬ (0 ≤ z0.toInt ∧ z0.toInt < 4) := h_6
    refine lv_if_eq (tgt := 20) hx hb dX6_sheet_4 (by decide) (fun c_36 => ?_) (fun c_36 => ?_)
    · skip
      refine lv_bipush (v := (-2)) hx hb dX6_sheet_20 (by decide) ?_
      exact W.iret (v := (-2)) hx hb hr (fun t ht hW => ⟨⟨(-2), z, rfl, ⟨hI, tSheet_bad (by omega)⟩, ⟨by rw [ht]; exact hP, hDa _⟩⟩, hS.F ht⟩) hS.2.2 dX6_sheet_22
    · skip
      exact absurd (by decide) c_36
set_option maxHeartbeats 4000000 in
set_option maxRecDepth 100000 in
theorem c_X6_lose (l : Launch) (dC : Nat → ClassId) (dI : Nat → Nat → Nat) (k : Nat → ClassId) (q : Nat → Nat) (z : ZS) (z0 : Int32) (sz : Nat) (hI : XInv z) : Met l yX6_lose (wz yX6_lose cX6_lose 2 (some .int)) ({ frames := 1, cells := 0, slots := 0, locals := 21 }) (va_Pc [.ref (q 0), .int z0] (zPre dC dI k (zTX k) (zX k q z) sz)) (va_Qi (fun (r : Int32) (u : ZS) => (XInv u) ∧ ((r, trX u) = tLose (trX z) z0)) (fun u t => zPost dC dI (va_A (zX k q z) sz) (zX k q u) t) (va_A (zX k q z) sz)) 0 0 (va_A (zX k q z) sz) := by
  refine Met.ofW (cc := cX6_lose) (maxL := 2) (ret := (some .int)) (by decide) rfl ?_
  intro p e s m args below meth c s₁ B hml hv
  obtain ⟨rfl, hsz, hP, hK, hD0⟩ := hv
  have hx := B.exec
  have hb := B.bytes
  have hr := B.returns
  have hts := atoms_spec (ws := wz yX6_lose cX6_lose 2 (some .int)) B.pre
  have htb : ∀ w ∈ zw, w.before _ s = true := fun w h => hts w (List.mem_cons_of_mem _ h)
  have hown : s.vm.findClass RX6 = some m.cls := findClass_of_methodNamed B.named
  have hlocks := B.notSynchronized
  clear hts
  subst hsz
  have hD := hD0.self (sz := s.heap.size)
  generalize hAe : va_A (zX k q z) s.heap.size = A at hD ⊢
  have hA : ∀ q : Nat, s.heap.size ≤ q → A q := fun q h => by rw [← hAe]; exact Or.inr h
  have hDa : ∀ z9 : ZS, va_D A (zX k q z9) := fun z9 => va_D_adr (w := zX k q z) rfl hD
  have hl := lv_entry ([.ref (q 0), .int z0]) (n := 2) (Nat.le_of_ble_eq_true rfl)
  rw [lg_entry_eq]
  generalize (lg_sl ([.ref (q 0), .int z0]) ++ List.replicate (2 - (lg_sl ([.ref (q 0), .int z0])).length) Slot.unset).toArray = ls at hl ⊢
  have hl : lv_has ls 2 [(0, .ref (q 0)), (1, .int z0)] := hl
  refine z_start2 (A := A) (w := (zX k q z)) hP (fun H locs hP hS => ?_)
  clear hD0 hAe
  have hT : trX z = trX z := rfl
  refine lv_iload_n hx hb dX6_lose_0 rfl (lv_at hl 1 rfl) ?_
  refine zc0_i (w := (zX k q z)) (va_runS (As := [.int z0]) (rest := []) ⟨hx, hb, hml, hown, htb⟩ (c_X6_isSheet l dC dI k z0 _ ) (va_cwS 1 htb (gzS wmt2_95 wmt2_96 wmt1_1 wmt2_97) rfl rfl rfl (by decide +kernel) ⟨Nat.le_of_ble_eq_true rfl, Nat.le_of_ble_eq_true rfl⟩) (zp0_S hK) rfl rfl hl.1 rfl (lv_room (Nat.le_of_ble_eq_true rfl)) dX6_lose_1 ⟨Nat.le_of_ble_eq_true rfl, Nat.le_of_ble_eq_true rfl⟩) hP hS hA (fun r_1 u_2 H locs w_3 hP hS => ?_)
  rcases w_3 with ⟨e_5, h_4⟩ | ⟨e_7, h_6⟩
  · skip
    replace e_5 : r_1 = 1 := e_5
    subst e_5
    replace h_4 : 0 ≤ z0.toInt ∧ z0.toInt < 4 := h_4
    refine lv_if_ne (tgt := 10) hx hb dX6_lose_4 (by decide) (fun c_8 => ?_) (fun c_8 => ?_)
    · skip
      refine lv_aload_n hx hb dX6_lose_10 rfl (lv_at hl 0 rfl) ?_
      refine va_get (D := (dC, dI)) (ci := 6) (v := .ref (q 2)) (C := RX6) (T := TX6) (N := 12) hx hb htb inw6 hown hK.1 hP 0 rfl rfl 1 (by decide) (htb _ wmt1_171) (fun _ h9 => h9) rfl dX6_lose_11 ?_
      refine lv_iload_n hx hb dX6_lose_14 rfl (lv_at hl 1 rfl) ?_
      refine va_aldq (D := (dC, dI)) hx hb hK.1 hP 2 4 rfl rfl (z_in (by omega)) dX6_lose_15 ?_
      obtain ⟨d_9, ed_9⟩ : ∃ x : Nat, x = z0.toNatClampNeg := ⟨_, rfl⟩
      have hd_9 : d_9 < 4 := by rw [ed_9]; exact z_cl4 (by omega)
      refine z_top (v2 := .ref (qS q d_9 0)) (zgS_at2 ed_9 hd_9) ?_
      refine zcS_i (w := (zX k q z)) (wc := (zS k (qS q d_9) (xS z d_9))) (va_runV (As := []) (rest := []) ⟨hx, hb, hml, hown, htb⟩ (c_X5_isLost l dC dI k (qS q d_9) (xS z d_9) _ ) (cwV 0 htb (gzV wmt2_98 wmt2_99 wmt2_100 wmt1_7 wmt2_101) rfl rfl rfl (by decide +kernel) ⟨Nat.le_of_ble_eq_true rfl, Nat.le_of_ble_eq_true rfl⟩) (zp_V (ci := 5) (q0 := (28 + 2 * d_9)) hK hP (hDa _) [28 + 2 * d_9, 29 + 2 * d_9] (zX_SC hd_9) (zX_ndS hd_9) rfl (zX_S0 hd_9)) rfl rfl hl.1 rfl (lv_room (Nat.le_of_ble_eq_true rfl)) dX6_lose_16 ⟨Nat.le_of_ble_eq_true rfl, Nat.le_of_ble_eq_true rfl⟩) hP (hDa _) hS hA [28 + 2 * d_9, 29 + 2 * d_9] (zX_SC hd_9) (fun _ => rfl) (fun r_10 u_11 H locs w_12 hP _ hS => ?_)
      have hP : va_P (dC, dI) vwCl (zX k q z) H := (zX_Skeep hd_9) ▸ hP
      rcases w_12 with ⟨e_14, h_13⟩ | ⟨e_16, h_15⟩
      · skip
        replace e_14 : r_10 = 1 := e_14
        subst e_14
        replace h_13 : ((xS z d_9).1 0).toInt = -1 := h_13
        refine lv_if_eq (tgt := 30) hx hb dX6_lose_19 (by decide) (fun c_17 => ?_) (fun c_17 => ?_)
        · skip
          exact absurd c_17 (by decide)
        · skip
          refine lv_aload_n hx hb dX6_lose_22 rfl (lv_at hl 0 rfl) ?_
          refine lv_iconst (v := 1) hx hb dX6_lose_23 (by decide) ?_
          refine zcA_i (w := (zX k q z)) (va_runV (As := [.int 1]) (rest := []) ⟨hx, hb, hml, hown, htb⟩ (c_X6_found l dC dI k q z 1 _ hI) (cwV 1 htb (gzV wmt2_102 wmt2_104 wmp1_7 wmt1_1 wmt2_105) rfl rfl rfl (by decide +kernel) ⟨Nat.le_of_ble_eq_true rfl, Nat.le_of_ble_eq_true rfl⟩) (zpA_V (ci := 6) (q0 := 0) hK hP (hDa _) rfl rfl) rfl rfl hl.1 rfl (lv_room (Nat.le_of_ble_eq_true rfl)) dX6_lose_24 ⟨Nat.le_of_ble_eq_true rfl, Nat.le_of_ble_eq_true rfl⟩) (hDa _) hS hA (fun r_18 u_19 H locs w_20 hP _ hS => ?_)
          obtain ⟨h_21, h_22, h_23⟩ := w_20
          replace h_21 : XInv u_19 := h_21
          replace h_22 : trX u_19 = trX z := h_22
          replace h_23 : r_18 = (-10) - (1 : Int32) := h_23
          have hI := h_21
          have hT := h_22.trans hT
          have hfd : r_18 = -11 := h_23.trans (by decide)
          refine lv_goto (tgt := 39) hx hb dX6_lose_27 (by decide) ?_
          exact W.iret (v := r_18) hx hb hr (fun t ht hW => ⟨⟨r_18, u_19, rfl, ⟨hI, tLose_lost (by omega) ed_9 (trX_Sg hd_9).1 h_13 hfd hT⟩, ⟨by rw [ht]; exact hP, hDa _⟩⟩, hS.F ht⟩) hS.2.2 dX6_lose_39
      · skip
        replace e_16 : r_10 = 0 := e_16
        subst e_16
        replace h_15 : ¬ ((xS z d_9).1 0).toInt = -1 := h_15
        refine lv_if_eq (tgt := 30) hx hb dX6_lose_19 (by decide) (fun c_25 => ?_) (fun c_25 => ?_)
        · skip
          refine lv_aload_n hx hb dX6_lose_30 rfl (lv_at hl 0 rfl) ?_
          refine va_get (D := (dC, dI)) (ci := 6) (v := .ref (q 2)) (C := RX6) (T := TX6) (N := 12) hx hb htb inw6 hown hK.1 hP 0 rfl rfl 1 (by decide) (htb _ wmt1_171) (fun _ h9 => h9) rfl dX6_lose_31 ?_
          refine lv_iload_n hx hb dX6_lose_34 rfl (lv_at hl 1 rfl) ?_
          refine va_aldq (D := (dC, dI)) hx hb hK.1 hP 2 4 rfl rfl (z_in (by omega)) dX6_lose_35 ?_
          refine z_top (v2 := .ref (qS q d_9 0)) (zgS_at2 ed_9 hd_9) ?_
          refine zcS_i (w := (zX k q z)) (wc := (zS k (qS q d_9) (xS z d_9))) (va_runV (As := []) (rest := []) ⟨hx, hb, hml, hown, htb⟩ (c_X5_drop l dC dI k (qS q d_9) (xS z d_9) _ ) (cwV 0 htb (gzV wmt3_101 wmt3_102 wmt3_103 wmt1_7 wmt3_104) rfl rfl rfl (by decide +kernel) ⟨Nat.le_of_ble_eq_true rfl, Nat.le_of_ble_eq_true rfl⟩) (zp_V (ci := 5) (q0 := (28 + 2 * d_9)) hK hP (hDa _) [28 + 2 * d_9, 29 + 2 * d_9] (zX_SC hd_9) (zX_ndS hd_9) rfl (zX_S0 hd_9)) rfl rfl hl.1 rfl (lv_room (Nat.le_of_ble_eq_true rfl)) dX6_lose_36 ⟨Nat.le_of_ble_eq_true rfl, Nat.le_of_ble_eq_true rfl⟩) hP (hDa _) hS hA [28 + 2 * d_9, 29 + 2 * d_9] (zX_SC hd_9) (fun _ => rfl) (fun r_26 u_27 H locs w_28 hP _ hS => ?_)
          obtain ⟨z_29, ez_29⟩ : ∃ x : ZS, x = (xsS z d_9 u_27) := ⟨_, rfl⟩
          have hP : va_P (dC, dI) vwCl (zX k q z_29) H := by rw [ez_29]; exact (zX_Sset hd_9) ▸ hP
          obtain ⟨h_30, h_31, h_32, h_33⟩ := w_28
          replace h_30 : r_26 = (xS z d_9).1 1 := h_30
          replace h_31 : u_27.1 0 = -1 := h_31
          replace h_32 : u_27.1 1 = 0 := h_32
          replace h_33 : u_27.2.2.1 0 = (xS z d_9).2.2.1 0 := h_33
          have hI : XInv z_29 := by rw [ez_29]; exact XInv_xsS hd_9 hI (by rw [h_32]; exact ⟨by decide, by decide⟩)
          have hT : trX z_29 = (((trX z).1.set (8 + 2 * d_9) (-1)).set (9 + 2 * d_9) 0, (trX z).2) := by rw [ez_29, trX_xsS hd_9, h_31, h_32, h_33]; exact congrArg (fun t : TT => (((trX z).1.set (8 + 2 * d_9) (-1)).set (9 + 2 * d_9) 0, t.2)) (tSt_self (t := trX z) (m := d_9) (f := cR (z.2.2.1 (12 + d_9 + 0))) (trX_Ig hd_9).symm)
          exact W.iret (v := r_26) hx hb hr (fun t ht hW => ⟨⟨r_26, z_29, rfl, ⟨hI, tLose_ok (by omega) ed_9 (trX_Sg hd_9).1 h_15 ((trX_Sg hd_9).2.trans h_30.symm) hT⟩, ⟨by rw [ht]; exact hP, hDa _⟩⟩, hS.F ht⟩) hS.2.2 dX6_lose_39
        · skip
          exact absurd (by decide) c_25
    · skip
      exact absurd c_8 (by decide)
  · skip
    replace e_7 : r_1 = 0 := e_7
    subst e_7
    replace h_6 : ¬ (0 ≤ z0.toInt ∧ z0.toInt < 4) := h_6
    refine lv_if_ne (tgt := 10) hx hb dX6_lose_4 (by decide) (fun c_35 => ?_) (fun c_35 => ?_)
    · skip
      exact absurd c_35 (by decide)
    · skip
      refine lv_bipush (v := (-2)) hx hb dX6_lose_7 (by decide) ?_
      exact W.iret (v := (-2)) hx hb hr (fun t ht hW => ⟨⟨(-2), z, rfl, ⟨hI, tLose_bad (by omega)⟩, ⟨by rw [ht]; exact hP, hDa _⟩⟩, hS.F ht⟩) hS.2.2 dX6_lose_9
set_option maxHeartbeats 4000000 in
set_option maxRecDepth 100000 in
theorem c_X6_put (l : Launch) (dC : Nat → ClassId) (dI : Nat → Nat → Nat) (k : Nat → ClassId) (q : Nat → Nat) (z : ZS) (z0 : Int32) (ty : Int32) (i : Int32) (v : Int32) (sz : Nat) (hI : XInv z) : Met l yX6_put (wz yX6_put cX6_put 6 (some .int)) ({ frames := 2, cells := 0, slots := 0, locals := 44 }) (va_Pc [.ref (q 0), .int z0, .int ty, .int i, .int v] (zPre dC dI k (zTX k) (zX k q z) sz)) (va_Qi (fun (r : Int32) (u : ZS) => (XInv u) ∧ ((r, trX u) = tPut2 (trX z) z0 ty i v)) (fun u t => zPost dC dI (va_A (zX k q z) sz) (zX k q u) t) (va_A (zX k q z) sz)) 0 0 (va_A (zX k q z) sz) := by
  refine Met.ofW (cc := cX6_put) (maxL := 6) (ret := (some .int)) (by decide) rfl ?_
  intro p e s m args below meth c s₁ B hml hv
  obtain ⟨rfl, hsz, hP, hK, hD0⟩ := hv
  have hx := B.exec
  have hb := B.bytes
  have hr := B.returns
  have hts := atoms_spec (ws := wz yX6_put cX6_put 6 (some .int)) B.pre
  have htb : ∀ w ∈ zw, w.before _ s = true := fun w h => hts w (List.mem_cons_of_mem _ h)
  have hown : s.vm.findClass RX6 = some m.cls := findClass_of_methodNamed B.named
  have hlocks := B.notSynchronized
  clear hts
  subst hsz
  have hD := hD0.self (sz := s.heap.size)
  generalize hAe : va_A (zX k q z) s.heap.size = A at hD ⊢
  have hA : ∀ q : Nat, s.heap.size ≤ q → A q := fun q h => by rw [← hAe]; exact Or.inr h
  have hDa : ∀ z9 : ZS, va_D A (zX k q z9) := fun z9 => va_D_adr (w := zX k q z) rfl hD
  have hl := lv_entry ([.ref (q 0), .int z0, .int ty, .int i, .int v]) (n := 6) (Nat.le_of_ble_eq_true rfl)
  rw [lg_entry_eq]
  generalize (lg_sl ([.ref (q 0), .int z0, .int ty, .int i, .int v]) ++ List.replicate (6 - (lg_sl ([.ref (q 0), .int z0, .int ty, .int i, .int v])).length) Slot.unset).toArray = ls at hl ⊢
  have hl : lv_has ls 6 [(0, .ref (q 0)), (1, .int z0), (2, .int ty), (3, .int i), (4, .int v)] := hl
  refine z_start2 (A := A) (w := (zX k q z)) hP (fun H locs hP hS => ?_)
  clear hD0 hAe
  have hT : trX z = trX z := rfl
  refine lv_iload_n hx hb dX6_put_0 rfl (lv_at hl 1 rfl) ?_
  refine zc0_i (w := (zX k q z)) (va_runS (As := [.int z0]) (rest := []) ⟨hx, hb, hml, hown, htb⟩ (c_X6_isSheet l dC dI k z0 _ ) (va_cwS 1 htb (gzS wmt2_95 wmt2_96 wmt1_1 wmt2_97) rfl rfl rfl (by decide +kernel) ⟨Nat.le_of_ble_eq_true rfl, Nat.le_of_ble_eq_true rfl⟩) (zp0_S hK) rfl rfl hl.1 rfl (lv_room (Nat.le_of_ble_eq_true rfl)) dX6_put_1 ⟨Nat.le_of_ble_eq_true rfl, Nat.le_of_ble_eq_true rfl⟩) hP hS hA (fun r_1 u_2 H locs w_3 hP hS => ?_)
  rcases w_3 with ⟨e_5, h_4⟩ | ⟨e_7, h_6⟩
  · skip
    replace e_5 : r_1 = 1 := e_5
    subst e_5
    replace h_4 : 0 ≤ z0.toInt ∧ z0.toInt < 4 := h_4
    refine lv_if_eq (tgt := 14) hx hb dX6_put_4 (by decide) (fun c_8 => ?_) (fun c_8 => ?_)
    · skip
      exact absurd c_8 (by decide)
    · skip
      refine lv_iload_n hx hb dX6_put_7 rfl (lv_at hl 2 rfl) ?_
      refine zc0_i (w := (zX k q z)) (va_runS (As := [.int ty]) (rest := []) ⟨hx, hb, hml, hown, htb⟩ (c_X6_isType l dC dI k ty _ ) (va_cwS 1 htb (gzS wmt3_89 wmt3_90 wmt1_1 wmt3_91) rfl rfl rfl (by decide +kernel) ⟨Nat.le_of_ble_eq_true rfl, Nat.le_of_ble_eq_true rfl⟩) (zp0_S hK) rfl rfl hl.1 rfl (lv_room (Nat.le_of_ble_eq_true rfl)) dX6_put_8 ⟨Nat.le_of_ble_eq_true rfl, Nat.le_of_ble_eq_true rfl⟩) hP hS hA (fun r_9 u_10 H locs w_11 hP hS => ?_)
      rcases w_11 with ⟨e_13, h_12⟩ | ⟨e_15, h_14⟩
      · skip
        replace e_13 : r_9 = 1 := e_13
        subst e_13
        replace h_12 : 0 ≤ ty.toInt ∧ ty.toInt < 3 := h_12
        refine lv_if_ne (tgt := 17) hx hb dX6_put_11 (by decide) (fun c_16 => ?_) (fun c_16 => ?_)
        · skip
          refine lv_aload_n hx hb dX6_put_17 rfl (lv_at hl 0 rfl) ?_
          refine va_get (D := (dC, dI)) (ci := 6) (v := .ref (q 2)) (C := RX6) (T := TX6) (N := 12) hx hb htb inw6 hown hK.1 hP 0 rfl rfl 1 (by decide) (htb _ wmt1_171) (fun _ h9 => h9) rfl dX6_put_18 ?_
          refine lv_iload_n hx hb dX6_put_21 rfl (lv_at hl 1 rfl) ?_
          refine va_aldq (D := (dC, dI)) hx hb hK.1 hP 2 4 rfl rfl (z_in (by omega)) dX6_put_22 ?_
          obtain ⟨d_17, ed_17⟩ : ∃ x : Nat, x = z0.toNatClampNeg := ⟨_, rfl⟩
          have hd_17 : d_17 < 4 := by rw [ed_17]; exact z_cl4 (by omega)
          refine z_top (v2 := .ref (qS q d_17 0)) (zgS_at2 ed_17 hd_17) ?_
          refine lv_iload_n hx hb dX6_put_23 rfl (lv_at hl 2 rfl) ?_
          refine lv_iload_n hx hb dX6_put_24 rfl (lv_at hl 3 rfl) ?_
          refine zcS_i (w := (zX k q z)) (wc := (zS k (qS q d_17) (xS z d_17))) (va_runS (As := [.ref (qS q d_17 0), .int ty, .int i]) (rest := []) ⟨hx, hb, hml, hown, htb⟩ (c_X6_itemFinding l dC dI k (qS q d_17) (xS z d_17) ty i _ (XInv_S hd_17 hI)) (va_cwS 3 htb (gzS wmt3_109 wmt3_110 wmt1_1 wmt3_111) rfl rfl rfl (by decide +kernel) ⟨Nat.le_of_ble_eq_true rfl, Nat.le_of_ble_eq_true rfl⟩) (zp_S hK hP (hDa _) [28 + 2 * d_17, 29 + 2 * d_17] (zX_SC hd_17) (zX_ndS hd_17)) rfl rfl hl.1 rfl (lv_room (Nat.le_of_ble_eq_true rfl)) dX6_put_25 ⟨Nat.le_of_ble_eq_true rfl, Nat.le_of_ble_eq_true rfl⟩) hP (hDa _) hS hA [28 + 2 * d_17, 29 + 2 * d_17] (zX_SC hd_17) (fun _ => rfl) (fun r_18 u_19 H locs w_20 hP _ hS => ?_)
          have hP : va_P (dC, dI) vwCl (zX k q z) H := (zX_Skeep hd_17) ▸ hP
          rcases w_20 with ⟨e_22, h_21⟩ | ⟨e_25, h_23, h_24⟩ | ⟨e_29, h_26, h_27, h_28⟩ | ⟨e_33, h_30, h_31, h_32⟩
          · skip
            replace e_22 : r_18 = 1 := e_22
            subst e_22
            replace h_21 : ((xS z d_17).1 0).toInt = -1 := h_21
            refine lv_istore (lv' := [(5, .int 1), (0, .ref (q 0)), (1, .int z0), (2, .int ty), (3, .int i), (4, .int v)]) hx hb dX6_put_28 hl (by decide) rfl (fun ls hl => ?_)
            refine lv_iload hx hb dX6_put_30 (lv_at hl 0 rfl) ?_
            refine lv_if_eq (tgt := 42) hx hb dX6_put_32 (by decide) (fun c_34 => ?_) (fun c_34 => ?_)
            · skip
              exact absurd c_34 (by decide)
            · skip
              refine lv_aload_n hx hb dX6_put_35 rfl (lv_at hl 1 rfl) ?_
              refine lv_iload hx hb dX6_put_36 (lv_at hl 0 rfl) ?_
              refine zcA_i (w := (zX k q z)) (va_runV (As := [.int 1]) (rest := []) ⟨hx, hb, hml, hown, htb⟩ (c_X6_found l dC dI k q z 1 _ hI) (cwV 1 htb (gzV wmt2_102 wmt2_104 wmp1_7 wmt1_1 wmt2_105) rfl rfl rfl (by decide +kernel) ⟨Nat.le_of_ble_eq_true rfl, Nat.le_of_ble_eq_true rfl⟩) (zpA_V (ci := 6) (q0 := 0) hK hP (hDa _) rfl rfl) rfl rfl hl.1 rfl (lv_room (Nat.le_of_ble_eq_true rfl)) dX6_put_38 ⟨Nat.le_of_ble_eq_true rfl, Nat.le_of_ble_eq_true rfl⟩) (hDa _) hS hA (fun r_35 u_36 H locs w_37 hP _ hS => ?_)
              obtain ⟨h_38, h_39, h_40⟩ := w_37
              replace h_38 : XInv u_36 := h_38
              replace h_39 : trX u_36 = trX z := h_39
              replace h_40 : r_35 = (-10) - (1 : Int32) := h_40
              have hI := h_38
              have hT := h_39.trans hT
              have hfd : r_35 = -11 := h_40.trans (by decide)
              exact W.iret (v := r_35) hx hb hr (fun t ht hW => ⟨⟨r_35, u_36, rfl, ⟨hI, tPut2_no (tPut_1 (by omega) ed_17 (trX_Sg hd_17).1 h_21 hfd) (by rw [hfd]; decide) hT⟩, ⟨by rw [ht]; exact hP, hDa _⟩⟩, hS.F ht⟩) hS.2.2 dX6_put_41
          · skip
            replace e_25 : r_18 = 3 := e_25
            subst e_25
            replace h_23 : ¬ ((xS z d_17).1 0).toInt = -1 := h_23
            replace h_24 : ¬ ((xS z d_17).1 0).toInt = ty.toInt := h_24
            refine lv_istore (lv' := [(5, .int 3), (0, .ref (q 0)), (1, .int z0), (2, .int ty), (3, .int i), (4, .int v)]) hx hb dX6_put_28 hl (by decide) rfl (fun ls hl => ?_)
            refine lv_iload hx hb dX6_put_30 (lv_at hl 0 rfl) ?_
            refine lv_if_eq (tgt := 42) hx hb dX6_put_32 (by decide) (fun c_42 => ?_) (fun c_42 => ?_)
            · skip
              exact absurd c_42 (by decide)
            · skip
              refine lv_aload_n hx hb dX6_put_35 rfl (lv_at hl 1 rfl) ?_
              refine lv_iload hx hb dX6_put_36 (lv_at hl 0 rfl) ?_
              refine zcA_i (w := (zX k q z)) (va_runV (As := [.int 3]) (rest := []) ⟨hx, hb, hml, hown, htb⟩ (c_X6_found l dC dI k q z 3 _ hI) (cwV 1 htb (gzV wmt2_102 wmt2_104 wmp1_7 wmt1_1 wmt2_105) rfl rfl rfl (by decide +kernel) ⟨Nat.le_of_ble_eq_true rfl, Nat.le_of_ble_eq_true rfl⟩) (zpA_V (ci := 6) (q0 := 0) hK hP (hDa _) rfl rfl) rfl rfl hl.1 rfl (lv_room (Nat.le_of_ble_eq_true rfl)) dX6_put_38 ⟨Nat.le_of_ble_eq_true rfl, Nat.le_of_ble_eq_true rfl⟩) (hDa _) hS hA (fun r_43 u_44 H locs w_45 hP _ hS => ?_)
              obtain ⟨h_46, h_47, h_48⟩ := w_45
              replace h_46 : XInv u_44 := h_46
              replace h_47 : trX u_44 = trX z := h_47
              replace h_48 : r_43 = (-10) - (3 : Int32) := h_48
              have hI := h_46
              have hT := h_47.trans hT
              have hfd : r_43 = -13 := h_48.trans (by decide)
              exact W.iret (v := r_43) hx hb hr (fun t ht hW => ⟨⟨r_43, u_44, rfl, ⟨hI, tPut2_no (tPut_3 (by omega) ed_17 (trX_Sg hd_17).1 h_23 h_24 hfd) (by rw [hfd]; decide) hT⟩, ⟨by rw [ht]; exact hP, hDa _⟩⟩, hS.F ht⟩) hS.2.2 dX6_put_41
          · skip
            replace e_29 : r_18 = 2 := e_29
            subst e_29
            replace h_26 : ¬ ((xS z d_17).1 0).toInt = -1 := h_26
            replace h_27 : ((xS z d_17).1 0).toInt = ty.toInt := h_27
            replace h_28 : ¬ (0 ≤ i.toInt ∧ i.toInt < ((xS z d_17).1 1).toInt) := h_28
            refine lv_istore (lv' := [(5, .int 2), (0, .ref (q 0)), (1, .int z0), (2, .int ty), (3, .int i), (4, .int v)]) hx hb dX6_put_28 hl (by decide) rfl (fun ls hl => ?_)
            refine lv_iload hx hb dX6_put_30 (lv_at hl 0 rfl) ?_
            refine lv_if_eq (tgt := 42) hx hb dX6_put_32 (by decide) (fun c_50 => ?_) (fun c_50 => ?_)
            · skip
              exact absurd c_50 (by decide)
            · skip
              refine lv_aload_n hx hb dX6_put_35 rfl (lv_at hl 1 rfl) ?_
              refine lv_iload hx hb dX6_put_36 (lv_at hl 0 rfl) ?_
              refine zcA_i (w := (zX k q z)) (va_runV (As := [.int 2]) (rest := []) ⟨hx, hb, hml, hown, htb⟩ (c_X6_found l dC dI k q z 2 _ hI) (cwV 1 htb (gzV wmt2_102 wmt2_104 wmp1_7 wmt1_1 wmt2_105) rfl rfl rfl (by decide +kernel) ⟨Nat.le_of_ble_eq_true rfl, Nat.le_of_ble_eq_true rfl⟩) (zpA_V (ci := 6) (q0 := 0) hK hP (hDa _) rfl rfl) rfl rfl hl.1 rfl (lv_room (Nat.le_of_ble_eq_true rfl)) dX6_put_38 ⟨Nat.le_of_ble_eq_true rfl, Nat.le_of_ble_eq_true rfl⟩) (hDa _) hS hA (fun r_51 u_52 H locs w_53 hP _ hS => ?_)
              obtain ⟨h_54, h_55, h_56⟩ := w_53
              replace h_54 : XInv u_52 := h_54
              replace h_55 : trX u_52 = trX z := h_55
              replace h_56 : r_51 = (-10) - (2 : Int32) := h_56
              have hI := h_54
              have hT := h_55.trans hT
              have hfd : r_51 = -12 := h_56.trans (by decide)
              exact W.iret (v := r_51) hx hb hr (fun t ht hW => ⟨⟨r_51, u_52, rfl, ⟨hI, tPut2_no (tPut_2 (by omega) ed_17 (trX_Sg hd_17).1 h_26 h_27 (trX_Sg hd_17).2 h_28 hfd) (by rw [hfd]; decide) hT⟩, ⟨by rw [ht]; exact hP, hDa _⟩⟩, hS.F ht⟩) hS.2.2 dX6_put_41
          · skip
            replace e_33 : r_18 = 0 := e_33
            subst e_33
            replace h_30 : ¬ ((xS z d_17).1 0).toInt = -1 := h_30
            replace h_31 : ((xS z d_17).1 0).toInt = ty.toInt := h_31
            replace h_32 : 0 ≤ i.toInt ∧ i.toInt < ((xS z d_17).1 1).toInt := h_32
            have hit := h_32
            refine lv_istore (lv' := [(5, .int 0), (0, .ref (q 0)), (1, .int z0), (2, .int ty), (3, .int i), (4, .int v)]) hx hb dX6_put_28 hl (by decide) rfl (fun ls hl => ?_)
            refine lv_iload hx hb dX6_put_30 (lv_at hl 0 rfl) ?_
            refine lv_if_eq (tgt := 42) hx hb dX6_put_32 (by decide) (fun c_58 => ?_) (fun c_58 => ?_)
            · skip
              refine lv_aload_n hx hb dX6_put_42 rfl (lv_at hl 1 rfl) ?_
              refine va_get (D := (dC, dI)) (ci := 6) (v := .ref (q 2)) (C := RX6) (T := TX6) (N := 12) hx hb htb inw6 hown hK.1 hP 0 rfl rfl 1 (by decide) (htb _ wmt1_171) (fun _ h9 => h9) rfl dX6_put_43 ?_
              refine lv_iload_n hx hb dX6_put_46 rfl (lv_at hl 2 rfl) ?_
              refine va_aldq (D := (dC, dI)) hx hb hK.1 hP 2 4 rfl rfl (z_in (by omega)) dX6_put_47 ?_
              refine z_top (v2 := .ref (qS q d_17 0)) (zgS_at2 ed_17 hd_17) ?_
              refine lv_iload_n hx hb dX6_put_48 rfl (lv_at hl 4 rfl) ?_
              refine lv_iload hx hb dX6_put_49 (lv_at hl 5 rfl) ?_
              refine zcS_v (w := (zX k q z)) (wc := (zS k (qS q d_17) (xS z d_17))) (va_runV (As := [.int i, .int v]) (rest := []) ⟨hx, hb, hml, hown, htb⟩ (c_X5_keep l dC dI k (qS q d_17) (xS z d_17) i v _ (z_lt60 hit (XInv_S hd_17 hI))) (cwV 2 htb (gzV wmt3_116 wmt3_117 wmt3_118 wmt1_7 wmt3_119) rfl rfl rfl (by decide +kernel) ⟨Nat.le_of_ble_eq_true rfl, Nat.le_of_ble_eq_true rfl⟩) (zp_V (ci := 5) (q0 := (28 + 2 * d_17)) hK hP (hDa _) [28 + 2 * d_17, 29 + 2 * d_17] (zX_SC hd_17) (zX_ndS hd_17) rfl (zX_S0 hd_17)) rfl rfl hl.1 rfl (lv_room (Nat.le_of_ble_eq_true rfl)) dX6_put_51 ⟨Nat.le_of_ble_eq_true rfl, Nat.le_of_ble_eq_true rfl⟩) hP (hDa _) hS hA [28 + 2 * d_17, 29 + 2 * d_17] (zX_SC hd_17) (fun _ => rfl) (fun u_60 H locs w_61 hP _ hS => ?_)
              obtain ⟨z_62, ez_62⟩ : ∃ x : ZS, x = (xsS z d_17 u_60) := ⟨_, rfl⟩
              have hP : va_P (dC, dI) vwCl (zX k q z_62) H := by rw [ez_62]; exact (zX_Sset hd_17) ▸ hP
              obtain ⟨h_63, h_64, h_65⟩ := w_61
              replace h_63 : u_60.1 0 = (xS z d_17).1 0 := h_63
              replace h_64 : u_60.1 1 = (xS z d_17).1 1 := h_64
              replace h_65 : u_60.2.2.1 0 = upd ((xS z d_17).2.2.1 0) i.toNatClampNeg (nar3 ((xS z d_17).1 0) v) := h_65
              have hi60 := z_lt60 hit (XInv_S hd_17 hI)
              have hI : XInv z_62 := by rw [ez_62]; exact XInv_xsS hd_17 hI (by rw [h_64]; exact XInv_S hd_17 hI)
              have hkp : trX z_62 = tSt (trX z) d_17 (upd (tIt (trX z) d_17) i.toNatClampNeg (cI (nar3 (tK (trX z) d_17) v))) := by rw [ez_62, trX_keep hd_17 h_63 h_64, h_65, cR_upd (show i.toNatClampNeg < 60 by have q9 := z_clamp (x := i) (by omega); omega)]; exact congrArg (fun g => (((trX z).1, (trX z).2.1, (trX z).2.2.set (5 + d_17) g) : TT)) (congr (congrArg (fun g => upd g i.toNatClampNeg) (trX_Ig hd_17).symm) (congrArg (fun k9 => cI (nar3 k9 v)) (trX_Sg hd_17).1.symm))
              refine lv_iconst (v := 1) hx hb dX6_put_54 (by decide) ?_
              exact W.iret (v := 1) hx hb hr (fun t ht hW => ⟨⟨1, z_62, rfl, ⟨hI, tPut2_ok (tPut_0 (by omega) ed_17 (trX_Sg hd_17).1 h_30 h_31 (trX_Sg hd_17).2 h_32 rfl) rfl ed_17 hkp⟩, ⟨by rw [ht]; exact hP, hDa _⟩⟩, hS.F ht⟩) hS.2.2 dX6_put_55
            · skip
              exact absurd (by decide) c_58
        · skip
          exact absurd c_16 (by decide)
      · skip
        replace e_15 : r_9 = 0 := e_15
        subst e_15
        replace h_14 : ¬ (0 ≤ ty.toInt ∧ ty.toInt < 3) := h_14
        refine lv_if_ne (tgt := 17) hx hb dX6_put_11 (by decide) (fun c_67 => ?_) (fun c_67 => ?_)
        · skip
          exact absurd c_67 (by decide)
        · skip
          refine lv_bipush (v := (-2)) hx hb dX6_put_14 (by decide) ?_
          exact W.iret (v := (-2)) hx hb hr (fun t ht hW => ⟨⟨(-2), z, rfl, ⟨hI, tPut2_no (tPut_bad (by omega)) (by decide) hT⟩, ⟨by rw [ht]; exact hP, hDa _⟩⟩, hS.F ht⟩) hS.2.2 dX6_put_16
  · skip
    replace e_7 : r_1 = 0 := e_7
    subst e_7
    replace h_6 : ¬ (0 ≤ z0.toInt ∧ z0.toInt < 4) := h_6
    refine lv_if_eq (tgt := 14) hx hb dX6_put_4 (by decide) (fun c_68 => ?_) (fun c_68 => ?_)
    · skip
      refine lv_bipush (v := (-2)) hx hb dX6_put_14 (by decide) ?_
      exact W.iret (v := (-2)) hx hb hr (fun t ht hW => ⟨⟨(-2), z, rfl, ⟨hI, tPut2_no (tPut_bad (by omega)) (by decide) hT⟩, ⟨by rw [ht]; exact hP, hDa _⟩⟩, hS.F ht⟩) hS.2.2 dX6_put_16
    · skip
      exact absurd (by decide) c_68
set_option maxHeartbeats 4000000 in
set_option maxRecDepth 100000 in
theorem c_X6_get (l : Launch) (dC : Nat → ClassId) (dI : Nat → Nat → Nat) (k : Nat → ClassId) (q : Nat → Nat) (z : ZS) (z0 : Int32) (ty : Int32) (i : Int32) (sz : Nat) (hI : XInv z) : Met l yX6_get (wz yX6_get cX6_get 5 (some .int)) ({ frames := 2, cells := 0, slots := 0, locals := 44 }) (va_Pc [.ref (q 0), .int z0, .int ty, .int i] (zPre dC dI k (zTX k) (zX k q z) sz)) (va_Qi (fun (r : Int32) (u : ZS) => (XInv u) ∧ (trX u = trX z)) (fun u t => zPost dC dI (va_A (zX k q z) sz) (zX k q u) t) (va_A (zX k q z) sz)) 0 0 (va_A (zX k q z) sz) := by
  refine Met.ofW (cc := cX6_get) (maxL := 5) (ret := (some .int)) (by decide) rfl ?_
  intro p e s m args below meth c s₁ B hml hv
  obtain ⟨rfl, hsz, hP, hK, hD0⟩ := hv
  have hx := B.exec
  have hb := B.bytes
  have hr := B.returns
  have hts := atoms_spec (ws := wz yX6_get cX6_get 5 (some .int)) B.pre
  have htb : ∀ w ∈ zw, w.before _ s = true := fun w h => hts w (List.mem_cons_of_mem _ h)
  have hown : s.vm.findClass RX6 = some m.cls := findClass_of_methodNamed B.named
  have hlocks := B.notSynchronized
  clear hts
  subst hsz
  have hD := hD0.self (sz := s.heap.size)
  generalize hAe : va_A (zX k q z) s.heap.size = A at hD ⊢
  have hA : ∀ q : Nat, s.heap.size ≤ q → A q := fun q h => by rw [← hAe]; exact Or.inr h
  have hDa : ∀ z9 : ZS, va_D A (zX k q z9) := fun z9 => va_D_adr (w := zX k q z) rfl hD
  have hl := lv_entry ([.ref (q 0), .int z0, .int ty, .int i]) (n := 5) (Nat.le_of_ble_eq_true rfl)
  rw [lg_entry_eq]
  generalize (lg_sl ([.ref (q 0), .int z0, .int ty, .int i]) ++ List.replicate (5 - (lg_sl ([.ref (q 0), .int z0, .int ty, .int i])).length) Slot.unset).toArray = ls at hl ⊢
  have hl : lv_has ls 5 [(0, .ref (q 0)), (1, .int z0), (2, .int ty), (3, .int i)] := hl
  refine z_start2 (A := A) (w := (zX k q z)) hP (fun H locs hP hS => ?_)
  clear hD0 hAe
  have hT : trX z = trX z := rfl
  refine lv_iload_n hx hb dX6_get_0 rfl (lv_at hl 1 rfl) ?_
  refine zc0_i (w := (zX k q z)) (va_runS (As := [.int z0]) (rest := []) ⟨hx, hb, hml, hown, htb⟩ (c_X6_isSheet l dC dI k z0 _ ) (va_cwS 1 htb (gzS wmt2_95 wmt2_96 wmt1_1 wmt2_97) rfl rfl rfl (by decide +kernel) ⟨Nat.le_of_ble_eq_true rfl, Nat.le_of_ble_eq_true rfl⟩) (zp0_S hK) rfl rfl hl.1 rfl (lv_room (Nat.le_of_ble_eq_true rfl)) dX6_get_1 ⟨Nat.le_of_ble_eq_true rfl, Nat.le_of_ble_eq_true rfl⟩) hP hS hA (fun r_1 u_2 H locs w_3 hP hS => ?_)
  rcases w_3 with ⟨e_5, h_4⟩ | ⟨e_7, h_6⟩
  · skip
    replace e_5 : r_1 = 1 := e_5
    subst e_5
    replace h_4 : 0 ≤ z0.toInt ∧ z0.toInt < 4 := h_4
    refine lv_if_eq (tgt := 14) hx hb dX6_get_4 (by decide) (fun c_8 => ?_) (fun c_8 => ?_)
    · skip
      exact absurd c_8 (by decide)
    · skip
      refine lv_iload_n hx hb dX6_get_7 rfl (lv_at hl 2 rfl) ?_
      refine zc0_i (w := (zX k q z)) (va_runS (As := [.int ty]) (rest := []) ⟨hx, hb, hml, hown, htb⟩ (c_X6_isType l dC dI k ty _ ) (va_cwS 1 htb (gzS wmt3_89 wmt3_90 wmt1_1 wmt3_91) rfl rfl rfl (by decide +kernel) ⟨Nat.le_of_ble_eq_true rfl, Nat.le_of_ble_eq_true rfl⟩) (zp0_S hK) rfl rfl hl.1 rfl (lv_room (Nat.le_of_ble_eq_true rfl)) dX6_get_8 ⟨Nat.le_of_ble_eq_true rfl, Nat.le_of_ble_eq_true rfl⟩) hP hS hA (fun r_9 u_10 H locs w_11 hP hS => ?_)
      rcases w_11 with ⟨e_13, h_12⟩ | ⟨e_15, h_14⟩
      · skip
        replace e_13 : r_9 = 1 := e_13
        subst e_13
        replace h_12 : 0 ≤ ty.toInt ∧ ty.toInt < 3 := h_12
        refine lv_if_ne (tgt := 18) hx hb dX6_get_11 (by decide) (fun c_16 => ?_) (fun c_16 => ?_)
        · skip
          refine lv_aload_n hx hb dX6_get_18 rfl (lv_at hl 0 rfl) ?_
          refine va_get (D := (dC, dI)) (ci := 6) (v := .ref (q 2)) (C := RX6) (T := TX6) (N := 12) hx hb htb inw6 hown hK.1 hP 0 rfl rfl 1 (by decide) (htb _ wmt1_171) (fun _ h9 => h9) rfl dX6_get_19 ?_
          refine lv_iload_n hx hb dX6_get_22 rfl (lv_at hl 1 rfl) ?_
          refine va_aldq (D := (dC, dI)) hx hb hK.1 hP 2 4 rfl rfl (z_in (by omega)) dX6_get_23 ?_
          obtain ⟨d_17, ed_17⟩ : ∃ x : Nat, x = z0.toNatClampNeg := ⟨_, rfl⟩
          have hd_17 : d_17 < 4 := by rw [ed_17]; exact z_cl4 (by omega)
          refine z_top (v2 := .ref (qS q d_17 0)) (zgS_at2 ed_17 hd_17) ?_
          refine lv_iload_n hx hb dX6_get_24 rfl (lv_at hl 2 rfl) ?_
          refine lv_iload_n hx hb dX6_get_25 rfl (lv_at hl 3 rfl) ?_
          refine zcS_i (w := (zX k q z)) (wc := (zS k (qS q d_17) (xS z d_17))) (va_runS (As := [.ref (qS q d_17 0), .int ty, .int i]) (rest := []) ⟨hx, hb, hml, hown, htb⟩ (c_X6_itemFinding l dC dI k (qS q d_17) (xS z d_17) ty i _ (XInv_S hd_17 hI)) (va_cwS 3 htb (gzS wmt3_109 wmt3_110 wmt1_1 wmt3_111) rfl rfl rfl (by decide +kernel) ⟨Nat.le_of_ble_eq_true rfl, Nat.le_of_ble_eq_true rfl⟩) (zp_S hK hP (hDa _) [28 + 2 * d_17, 29 + 2 * d_17] (zX_SC hd_17) (zX_ndS hd_17)) rfl rfl hl.1 rfl (lv_room (Nat.le_of_ble_eq_true rfl)) dX6_get_26 ⟨Nat.le_of_ble_eq_true rfl, Nat.le_of_ble_eq_true rfl⟩) hP (hDa _) hS hA [28 + 2 * d_17, 29 + 2 * d_17] (zX_SC hd_17) (fun _ => rfl) (fun r_18 u_19 H locs w_20 hP _ hS => ?_)
          have hP : va_P (dC, dI) vwCl (zX k q z) H := (zX_Skeep hd_17) ▸ hP
          rcases w_20 with ⟨e_22, h_21⟩ | ⟨e_25, h_23, h_24⟩ | ⟨e_29, h_26, h_27, h_28⟩ | ⟨e_33, h_30, h_31, h_32⟩
          · skip
            replace e_22 : r_18 = 1 := e_22
            subst e_22
            replace h_21 : ((xS z d_17).1 0).toInt = -1 := h_21
            refine lv_istore (lv' := [(4, .int 1), (0, .ref (q 0)), (1, .int z0), (2, .int ty), (3, .int i)]) hx hb dX6_get_29 hl (by decide) rfl (fun ls hl => ?_)
            refine lv_iload hx hb dX6_get_31 (lv_at hl 0 rfl) ?_
            refine lv_if_eq (tgt := 46) hx hb dX6_get_33 (by decide) (fun c_34 => ?_) (fun c_34 => ?_)
            · skip
              exact absurd c_34 (by decide)
            · skip
              refine lv_aload_n hx hb dX6_get_36 rfl (lv_at hl 1 rfl) ?_
              refine lv_iload hx hb dX6_get_37 (lv_at hl 0 rfl) ?_
              refine va_put (D := (dC, dI)) (ci := 6) (v := .int 1) (ty := .int) (C := RX6) (T := TX6) (N := 12) hx hb htb inw6 tyX6 tyX6_ok nmX6 hown hK.1 hP (hDa _) hS 0 rfl rfl 11 (by decide) (htb _ wmt1_181) (fun _ h9 => h9) rfl (by decide +kernel) rfl rfl (Nat.le_of_ble_eq_true rfl) dX6_get_39 (fun H locs hP _ hS => ?_)
              have hP : va_P (dC, dI) vwCl (zX k q (sI z 4 1)) H := hP
              refine lv_ldcw (v := (-2147483648)) hx hb hown (htb _ wmt3_124) dX6_get_42 ?_
              exact W.iret (v := (-2147483648)) hx hb hr (fun t ht hW => ⟨⟨(-2147483648), (sI z 4 1), rfl, ⟨hI, hT⟩, ⟨by rw [ht]; exact hP, hDa _⟩⟩, hS.F ht⟩) hS.2.2 dX6_get_45
          · skip
            replace e_25 : r_18 = 3 := e_25
            subst e_25
            replace h_23 : ¬ ((xS z d_17).1 0).toInt = -1 := h_23
            replace h_24 : ¬ ((xS z d_17).1 0).toInt = ty.toInt := h_24
            refine lv_istore (lv' := [(4, .int 3), (0, .ref (q 0)), (1, .int z0), (2, .int ty), (3, .int i)]) hx hb dX6_get_29 hl (by decide) rfl (fun ls hl => ?_)
            refine lv_iload hx hb dX6_get_31 (lv_at hl 0 rfl) ?_
            refine lv_if_eq (tgt := 46) hx hb dX6_get_33 (by decide) (fun c_35 => ?_) (fun c_35 => ?_)
            · skip
              exact absurd c_35 (by decide)
            · skip
              refine lv_aload_n hx hb dX6_get_36 rfl (lv_at hl 1 rfl) ?_
              refine lv_iload hx hb dX6_get_37 (lv_at hl 0 rfl) ?_
              refine va_put (D := (dC, dI)) (ci := 6) (v := .int 3) (ty := .int) (C := RX6) (T := TX6) (N := 12) hx hb htb inw6 tyX6 tyX6_ok nmX6 hown hK.1 hP (hDa _) hS 0 rfl rfl 11 (by decide) (htb _ wmt1_181) (fun _ h9 => h9) rfl (by decide +kernel) rfl rfl (Nat.le_of_ble_eq_true rfl) dX6_get_39 (fun H locs hP _ hS => ?_)
              have hP : va_P (dC, dI) vwCl (zX k q (sI z 4 3)) H := hP
              refine lv_ldcw (v := (-2147483648)) hx hb hown (htb _ wmt3_124) dX6_get_42 ?_
              exact W.iret (v := (-2147483648)) hx hb hr (fun t ht hW => ⟨⟨(-2147483648), (sI z 4 3), rfl, ⟨hI, hT⟩, ⟨by rw [ht]; exact hP, hDa _⟩⟩, hS.F ht⟩) hS.2.2 dX6_get_45
          · skip
            replace e_29 : r_18 = 2 := e_29
            subst e_29
            replace h_26 : ¬ ((xS z d_17).1 0).toInt = -1 := h_26
            replace h_27 : ((xS z d_17).1 0).toInt = ty.toInt := h_27
            replace h_28 : ¬ (0 ≤ i.toInt ∧ i.toInt < ((xS z d_17).1 1).toInt) := h_28
            refine lv_istore (lv' := [(4, .int 2), (0, .ref (q 0)), (1, .int z0), (2, .int ty), (3, .int i)]) hx hb dX6_get_29 hl (by decide) rfl (fun ls hl => ?_)
            refine lv_iload hx hb dX6_get_31 (lv_at hl 0 rfl) ?_
            refine lv_if_eq (tgt := 46) hx hb dX6_get_33 (by decide) (fun c_36 => ?_) (fun c_36 => ?_)
            · skip
              exact absurd c_36 (by decide)
            · skip
              refine lv_aload_n hx hb dX6_get_36 rfl (lv_at hl 1 rfl) ?_
              refine lv_iload hx hb dX6_get_37 (lv_at hl 0 rfl) ?_
              refine va_put (D := (dC, dI)) (ci := 6) (v := .int 2) (ty := .int) (C := RX6) (T := TX6) (N := 12) hx hb htb inw6 tyX6 tyX6_ok nmX6 hown hK.1 hP (hDa _) hS 0 rfl rfl 11 (by decide) (htb _ wmt1_181) (fun _ h9 => h9) rfl (by decide +kernel) rfl rfl (Nat.le_of_ble_eq_true rfl) dX6_get_39 (fun H locs hP _ hS => ?_)
              have hP : va_P (dC, dI) vwCl (zX k q (sI z 4 2)) H := hP
              refine lv_ldcw (v := (-2147483648)) hx hb hown (htb _ wmt3_124) dX6_get_42 ?_
              exact W.iret (v := (-2147483648)) hx hb hr (fun t ht hW => ⟨⟨(-2147483648), (sI z 4 2), rfl, ⟨hI, hT⟩, ⟨by rw [ht]; exact hP, hDa _⟩⟩, hS.F ht⟩) hS.2.2 dX6_get_45
          · skip
            replace e_33 : r_18 = 0 := e_33
            subst e_33
            replace h_30 : ¬ ((xS z d_17).1 0).toInt = -1 := h_30
            replace h_31 : ((xS z d_17).1 0).toInt = ty.toInt := h_31
            replace h_32 : 0 ≤ i.toInt ∧ i.toInt < ((xS z d_17).1 1).toInt := h_32
            have hit := h_32
            refine lv_istore (lv' := [(4, .int 0), (0, .ref (q 0)), (1, .int z0), (2, .int ty), (3, .int i)]) hx hb dX6_get_29 hl (by decide) rfl (fun ls hl => ?_)
            refine lv_iload hx hb dX6_get_31 (lv_at hl 0 rfl) ?_
            refine lv_if_eq (tgt := 46) hx hb dX6_get_33 (by decide) (fun c_37 => ?_) (fun c_37 => ?_)
            · skip
              refine lv_aload_n hx hb dX6_get_46 rfl (lv_at hl 1 rfl) ?_
              refine va_get (D := (dC, dI)) (ci := 6) (v := .ref (q 2)) (C := RX6) (T := TX6) (N := 12) hx hb htb inw6 hown hK.1 hP 0 rfl rfl 1 (by decide) (htb _ wmt1_171) (fun _ h9 => h9) rfl dX6_get_47 ?_
              refine lv_iload_n hx hb dX6_get_50 rfl (lv_at hl 2 rfl) ?_
              refine va_aldq (D := (dC, dI)) hx hb hK.1 hP 2 4 rfl rfl (z_in (by omega)) dX6_get_51 ?_
              refine z_top (v2 := .ref (qS q d_17 0)) (zgS_at2 ed_17 hd_17) ?_
              refine va_get (D := (dC, dI)) (ci := 5) (v := .ref (qS q d_17 1)) (C := RX5) (T := TX5) (N := 3) hx hb htb inw5 hown hK.1 hP (28 + 2 * d_17) (zX_S0 hd_17) rfl 0 (by decide) (htb _ wmt1_158) (fun _ h9 => h9) rfl dX6_get_52 ?_
              refine lv_iload_n hx hb dX6_get_55 rfl (lv_at hl 4 rfl) ?_
              refine va_iald (D := (dC, dI)) hx hb hK.1 hP (29 + 2 * d_17) 0 (zX_S1 hd_17) rfl (z_in (z_lt60 hit (XInv_S hd_17 hI))) dX6_get_56 ?_
              refine lv_topi (fun x_38 ex_38 => ?_)
              exact W.iret (v := x_38) hx hb hr (fun t ht hW => ⟨⟨x_38, z, rfl, ⟨hI, hT⟩, ⟨by rw [ht]; exact hP, hDa _⟩⟩, hS.F ht⟩) hS.2.2 dX6_get_57
            · skip
              exact absurd (by decide) c_37
        · skip
          exact absurd c_16 (by decide)
      · skip
        replace e_15 : r_9 = 0 := e_15
        subst e_15
        replace h_14 : ¬ (0 ≤ ty.toInt ∧ ty.toInt < 3) := h_14
        refine lv_if_ne (tgt := 18) hx hb dX6_get_11 (by decide) (fun c_39 => ?_) (fun c_39 => ?_)
        · skip
          exact absurd c_39 (by decide)
        · skip
          refine lv_ldcw (v := (-2147483648)) hx hb hown (htb _ wmt3_124) dX6_get_14 ?_
          exact W.iret (v := (-2147483648)) hx hb hr (fun t ht hW => ⟨⟨(-2147483648), z, rfl, ⟨hI, hT⟩, ⟨by rw [ht]; exact hP, hDa _⟩⟩, hS.F ht⟩) hS.2.2 dX6_get_17
  · skip
    replace e_7 : r_1 = 0 := e_7
    subst e_7
    replace h_6 : ¬ (0 ≤ z0.toInt ∧ z0.toInt < 4) := h_6
    refine lv_if_eq (tgt := 14) hx hb dX6_get_4 (by decide) (fun c_40 => ?_) (fun c_40 => ?_)
    · skip
      refine lv_ldcw (v := (-2147483648)) hx hb hown (htb _ wmt3_124) dX6_get_14 ?_
      exact W.iret (v := (-2147483648)) hx hb hr (fun t ht hW => ⟨⟨(-2147483648), z, rfl, ⟨hI, hT⟩, ⟨by rw [ht]; exact hP, hDa _⟩⟩, hS.F ht⟩) hS.2.2 dX6_get_17
    · skip
      exact absurd (by decide) c_40
set_option maxHeartbeats 4000000 in
set_option maxRecDepth 100000 in
theorem c_X6_copy (l : Launch) (dC : Nat → ClassId) (dI : Nat → Nat → Nat) (k : Nat → ClassId) (q : Nat → Nat) (z : ZS) (z0 : Int32) (i : Int32) (z02 : Int32) (j : Int32) (n : Int32) (sz : Nat) (hI : XInv z) : Met l yX6_copy (wz yX6_copy cX6_copy 8 (some .int)) ({ frames := 1, cells := 0, slots := 0, locals := 40 }) (va_Pc [.ref (q 0), .int z0, .int i, .int z02, .int j, .int n] (zPre dC dI k (zTX k) (zX k q z) sz)) (va_Qi (fun (r : Int32) (u : ZS) => (XInv u) ∧ ((r, trX u) = tCopy2 (trX z) z0 i z02 j n)) (fun u t => zPost dC dI (va_A (zX k q z) sz) (zX k q u) t) (va_A (zX k q z) sz)) 0 0 (va_A (zX k q z) sz) := by
  refine Met.ofW (cc := cX6_copy) (maxL := 8) (ret := (some .int)) (by decide) rfl ?_
  intro p e s m args below meth c s₁ B hml hv
  obtain ⟨rfl, hsz, hP, hK, hD0⟩ := hv
  have hx := B.exec
  have hb := B.bytes
  have hr := B.returns
  have hts := atoms_spec (ws := wz yX6_copy cX6_copy 8 (some .int)) B.pre
  have htb : ∀ w ∈ zw, w.before _ s = true := fun w h => hts w (List.mem_cons_of_mem _ h)
  have hown : s.vm.findClass RX6 = some m.cls := findClass_of_methodNamed B.named
  have hlocks := B.notSynchronized
  clear hts
  subst hsz
  have hD := hD0.self (sz := s.heap.size)
  generalize hAe : va_A (zX k q z) s.heap.size = A at hD ⊢
  have hA : ∀ q : Nat, s.heap.size ≤ q → A q := fun q h => by rw [← hAe]; exact Or.inr h
  have hDa : ∀ z9 : ZS, va_D A (zX k q z9) := fun z9 => va_D_adr (w := zX k q z) rfl hD
  have hl := lv_entry ([.ref (q 0), .int z0, .int i, .int z02, .int j, .int n]) (n := 8) (Nat.le_of_ble_eq_true rfl)
  rw [lg_entry_eq]
  generalize (lg_sl ([.ref (q 0), .int z0, .int i, .int z02, .int j, .int n]) ++ List.replicate (8 - (lg_sl ([.ref (q 0), .int z0, .int i, .int z02, .int j, .int n])).length) Slot.unset).toArray = ls at hl ⊢
  have hl : lv_has ls 8 [(0, .ref (q 0)), (1, .int z0), (2, .int i), (3, .int z02), (4, .int j), (5, .int n)] := hl
  refine z_start2 (A := A) (w := (zX k q z)) hP (fun H locs hP hS => ?_)
  clear hD0 hAe
  have hT : trX z = trX z := rfl
  refine lv_iload_n hx hb dX6_copy_0 rfl (lv_at hl 1 rfl) ?_
  refine zc0_i (w := (zX k q z)) (va_runS (As := [.int z0]) (rest := []) ⟨hx, hb, hml, hown, htb⟩ (c_X6_isSheet l dC dI k z0 _ ) (va_cwS 1 htb (gzS wmt2_95 wmt2_96 wmt1_1 wmt2_97) rfl rfl rfl (by decide +kernel) ⟨Nat.le_of_ble_eq_true rfl, Nat.le_of_ble_eq_true rfl⟩) (zp0_S hK) rfl rfl hl.1 rfl (lv_room (Nat.le_of_ble_eq_true rfl)) dX6_copy_1 ⟨Nat.le_of_ble_eq_true rfl, Nat.le_of_ble_eq_true rfl⟩) hP hS hA (fun r_1 u_2 H locs w_3 hP hS => ?_)
  rcases w_3 with ⟨e_5, h_4⟩ | ⟨e_7, h_6⟩
  · skip
    replace e_5 : r_1 = 1 := e_5
    subst e_5
    replace h_4 : 0 ≤ z0.toInt ∧ z0.toInt < 4 := h_4
    refine lv_if_eq (tgt := 14) hx hb dX6_copy_4 (by decide) (fun c_8 => ?_) (fun c_8 => ?_)
    · skip
      exact absurd c_8 (by decide)
    · skip
      refine lv_iload_n hx hb dX6_copy_7 rfl (lv_at hl 3 rfl) ?_
      refine zc0_i (w := (zX k q z)) (va_runS (As := [.int z02]) (rest := []) ⟨hx, hb, hml, hown, htb⟩ (c_X6_isSheet l dC dI k z02 _ ) (va_cwS 1 htb (gzS wmt2_95 wmt2_96 wmt1_1 wmt2_97) rfl rfl rfl (by decide +kernel) ⟨Nat.le_of_ble_eq_true rfl, Nat.le_of_ble_eq_true rfl⟩) (zp0_S hK) rfl rfl hl.1 rfl (lv_room (Nat.le_of_ble_eq_true rfl)) dX6_copy_8 ⟨Nat.le_of_ble_eq_true rfl, Nat.le_of_ble_eq_true rfl⟩) hP hS hA (fun r_9 u_10 H locs w_11 hP hS => ?_)
      rcases w_11 with ⟨e_13, h_12⟩ | ⟨e_15, h_14⟩
      · skip
        replace e_13 : r_9 = 1 := e_13
        subst e_13
        replace h_12 : 0 ≤ z02.toInt ∧ z02.toInt < 4 := h_12
        refine lv_if_ne (tgt := 17) hx hb dX6_copy_11 (by decide) (fun c_16 => ?_) (fun c_16 => ?_)
        · skip
          refine lv_aload_n hx hb dX6_copy_17 rfl (lv_at hl 0 rfl) ?_
          refine va_get (D := (dC, dI)) (ci := 6) (v := .ref (q 2)) (C := RX6) (T := TX6) (N := 12) hx hb htb inw6 hown hK.1 hP 0 rfl rfl 1 (by decide) (htb _ wmt1_171) (fun _ h9 => h9) rfl dX6_copy_18 ?_
          refine lv_iload_n hx hb dX6_copy_21 rfl (lv_at hl 1 rfl) ?_
          refine va_aldq (D := (dC, dI)) hx hb hK.1 hP 2 4 rfl rfl (z_in (by omega)) dX6_copy_22 ?_
          obtain ⟨d_17, ed_17⟩ : ∃ x : Nat, x = z0.toNatClampNeg := ⟨_, rfl⟩
          have hd_17 : d_17 < 4 := by rw [ed_17]; exact z_cl4 (by omega)
          refine z_top (v2 := .ref (qS q d_17 0)) (zgS_at2 ed_17 hd_17) ?_
          refine lv_astore (lv' := [(6, .ref (qS q d_17 0)), (0, .ref (q 0)), (1, .int z0), (2, .int i), (3, .int z02), (4, .int j), (5, .int n)]) hx hb dX6_copy_23 hl (by decide) rfl (fun ls hl => ?_)
          refine lv_aload_n hx hb dX6_copy_25 rfl (lv_at hl 1 rfl) ?_
          refine va_get (D := (dC, dI)) (ci := 6) (v := .ref (q 2)) (C := RX6) (T := TX6) (N := 12) hx hb htb inw6 hown hK.1 hP 0 rfl rfl 1 (by decide) (htb _ wmt1_171) (fun _ h9 => h9) rfl dX6_copy_26 ?_
          refine lv_iload_n hx hb dX6_copy_29 rfl (lv_at hl 4 rfl) ?_
          refine va_aldq (D := (dC, dI)) hx hb hK.1 hP 2 4 rfl rfl (z_in (by omega)) dX6_copy_30 ?_
          obtain ⟨d_18, ed_18⟩ : ∃ x : Nat, x = z02.toNatClampNeg := ⟨_, rfl⟩
          have hd_18 : d_18 < 4 := by rw [ed_18]; exact z_cl4 (by omega)
          refine z_top (v2 := .ref (qS q d_18 0)) (zgS_at2 ed_18 hd_18) ?_
          refine lv_astore (lv' := [(7, .ref (qS q d_18 0)), (6, .ref (qS q d_17 0)), (0, .ref (q 0)), (1, .int z0), (2, .int i), (3, .int z02), (4, .int j), (5, .int n)]) hx hb dX6_copy_31 hl (by decide) rfl (fun ls hl => ?_)
          refine lv_aload hx hb dX6_copy_33 (lv_at hl 1 rfl) ?_
          refine zcS_i (w := (zX k q z)) (wc := (zS k (qS q d_17) (xS z d_17))) (va_runV (As := []) (rest := []) ⟨hx, hb, hml, hown, htb⟩ (c_X5_isLost l dC dI k (qS q d_17) (xS z d_17) _ ) (cwV 0 htb (gzV wmt2_98 wmt2_99 wmt2_100 wmt1_7 wmt2_101) rfl rfl rfl (by decide +kernel) ⟨Nat.le_of_ble_eq_true rfl, Nat.le_of_ble_eq_true rfl⟩) (zp_V (ci := 5) (q0 := (28 + 2 * d_17)) hK hP (hDa _) [28 + 2 * d_17, 29 + 2 * d_17] (zX_SC hd_17) (zX_ndS hd_17) rfl (zX_S0 hd_17)) rfl rfl hl.1 rfl (lv_room (Nat.le_of_ble_eq_true rfl)) dX6_copy_35 ⟨Nat.le_of_ble_eq_true rfl, Nat.le_of_ble_eq_true rfl⟩) hP (hDa _) hS hA [28 + 2 * d_17, 29 + 2 * d_17] (zX_SC hd_17) (fun _ => rfl) (fun r_19 u_20 H locs w_21 hP _ hS => ?_)
          have hP : va_P (dC, dI) vwCl (zX k q z) H := (zX_Skeep hd_17) ▸ hP
          rcases w_21 with ⟨e_23, h_22⟩ | ⟨e_25, h_24⟩
          · skip
            replace e_23 : r_19 = 1 := e_23
            subst e_23
            replace h_22 : ((xS z d_17).1 0).toInt = -1 := h_22
            have hl0 : (z.1 (34 + 2 * d_17 + 0)).toInt = -1 := h_22
            refine lv_if_ne (tgt := 49) hx hb dX6_copy_38 (by decide) (fun c_26 => ?_) (fun c_26 => ?_)
            · skip
              refine lv_aload_n hx hb dX6_copy_49 rfl (lv_at hl 2 rfl) ?_
              refine lv_iconst (v := 1) hx hb dX6_copy_50 (by decide) ?_
              refine zcA_i (w := (zX k q z)) (va_runV (As := [.int 1]) (rest := []) ⟨hx, hb, hml, hown, htb⟩ (c_X6_found l dC dI k q z 1 _ hI) (cwV 1 htb (gzV wmt2_102 wmt2_104 wmp1_7 wmt1_1 wmt2_105) rfl rfl rfl (by decide +kernel) ⟨Nat.le_of_ble_eq_true rfl, Nat.le_of_ble_eq_true rfl⟩) (zpA_V (ci := 6) (q0 := 0) hK hP (hDa _) rfl rfl) rfl rfl hl.1 rfl (lv_room (Nat.le_of_ble_eq_true rfl)) dX6_copy_51 ⟨Nat.le_of_ble_eq_true rfl, Nat.le_of_ble_eq_true rfl⟩) (hDa _) hS hA (fun r_27 u_28 H locs w_29 hP _ hS => ?_)
              obtain ⟨h_30, h_31, h_32⟩ := w_29
              replace h_30 : XInv u_28 := h_30
              replace h_31 : trX u_28 = trX z := h_31
              replace h_32 : r_27 = (-10) - (1 : Int32) := h_32
              have hI := h_30
              have hT := h_31.trans hT
              have hfd : r_27 = -11 := h_32.trans (by decide)
              exact W.iret (v := r_27) hx hb hr (fun t ht hW => ⟨⟨r_27, u_28, rfl, ⟨hI, tCopy2_no (tCopy_1 (by omega) ed_17 ed_18 (trX_Sg hd_17).1 (trX_Sg hd_18).1 (by omega) hfd) (by rw [hfd]; decide) hT⟩, ⟨by rw [ht]; exact hP, hDa _⟩⟩, hS.F ht⟩) hS.2.2 dX6_copy_54
            · skip
              exact absurd c_26 (by decide)
          · skip
            replace e_25 : r_19 = 0 := e_25
            subst e_25
            replace h_24 : ¬ ((xS z d_17).1 0).toInt = -1 := h_24
            have hl0 : ¬ (z.1 (34 + 2 * d_17 + 0)).toInt = -1 := h_24
            refine lv_if_ne (tgt := 49) hx hb dX6_copy_38 (by decide) (fun c_34 => ?_) (fun c_34 => ?_)
            · skip
              exact absurd c_34 (by decide)
            · skip
              refine lv_aload hx hb dX6_copy_41 (lv_at hl 0 rfl) ?_
              refine zcS_i (w := (zX k q z)) (wc := (zS k (qS q d_18) (xS z d_18))) (va_runV (As := []) (rest := []) ⟨hx, hb, hml, hown, htb⟩ (c_X5_isLost l dC dI k (qS q d_18) (xS z d_18) _ ) (cwV 0 htb (gzV wmt2_98 wmt2_99 wmt2_100 wmt1_7 wmt2_101) rfl rfl rfl (by decide +kernel) ⟨Nat.le_of_ble_eq_true rfl, Nat.le_of_ble_eq_true rfl⟩) (zp_V (ci := 5) (q0 := (28 + 2 * d_18)) hK hP (hDa _) [28 + 2 * d_18, 29 + 2 * d_18] (zX_SC hd_18) (zX_ndS hd_18) rfl (zX_S0 hd_18)) rfl rfl hl.1 rfl (lv_room (Nat.le_of_ble_eq_true rfl)) dX6_copy_43 ⟨Nat.le_of_ble_eq_true rfl, Nat.le_of_ble_eq_true rfl⟩) hP (hDa _) hS hA [28 + 2 * d_18, 29 + 2 * d_18] (zX_SC hd_18) (fun _ => rfl) (fun r_35 u_36 H locs w_37 hP _ hS => ?_)
              have hP : va_P (dC, dI) vwCl (zX k q z) H := (zX_Skeep hd_18) ▸ hP
              rcases w_37 with ⟨e_39, h_38⟩ | ⟨e_41, h_40⟩
              · skip
                replace e_39 : r_35 = 1 := e_39
                subst e_39
                replace h_38 : ((xS z d_18).1 0).toInt = -1 := h_38
                have hl1 : (z.1 (34 + 2 * d_18 + 0)).toInt = -1 := h_38
                refine lv_if_eq (tgt := 55) hx hb dX6_copy_46 (by decide) (fun c_42 => ?_) (fun c_42 => ?_)
                · skip
                  exact absurd c_42 (by decide)
                · skip
                  refine lv_aload_n hx hb dX6_copy_49 rfl (lv_at hl 2 rfl) ?_
                  refine lv_iconst (v := 1) hx hb dX6_copy_50 (by decide) ?_
                  refine zcA_i (w := (zX k q z)) (va_runV (As := [.int 1]) (rest := []) ⟨hx, hb, hml, hown, htb⟩ (c_X6_found l dC dI k q z 1 _ hI) (cwV 1 htb (gzV wmt2_102 wmt2_104 wmp1_7 wmt1_1 wmt2_105) rfl rfl rfl (by decide +kernel) ⟨Nat.le_of_ble_eq_true rfl, Nat.le_of_ble_eq_true rfl⟩) (zpA_V (ci := 6) (q0 := 0) hK hP (hDa _) rfl rfl) rfl rfl hl.1 rfl (lv_room (Nat.le_of_ble_eq_true rfl)) dX6_copy_51 ⟨Nat.le_of_ble_eq_true rfl, Nat.le_of_ble_eq_true rfl⟩) (hDa _) hS hA (fun r_43 u_44 H locs w_45 hP _ hS => ?_)
                  obtain ⟨h_46, h_47, h_48⟩ := w_45
                  replace h_46 : XInv u_44 := h_46
                  replace h_47 : trX u_44 = trX z := h_47
                  replace h_48 : r_43 = (-10) - (1 : Int32) := h_48
                  have hI := h_46
                  have hT := h_47.trans hT
                  have hfd : r_43 = -11 := h_48.trans (by decide)
                  exact W.iret (v := r_43) hx hb hr (fun t ht hW => ⟨⟨r_43, u_44, rfl, ⟨hI, tCopy2_no (tCopy_1 (by omega) ed_17 ed_18 (trX_Sg hd_17).1 (trX_Sg hd_18).1 (by omega) hfd) (by rw [hfd]; decide) hT⟩, ⟨by rw [ht]; exact hP, hDa _⟩⟩, hS.F ht⟩) hS.2.2 dX6_copy_54
              · skip
                replace e_41 : r_35 = 0 := e_41
                subst e_41
                replace h_40 : ¬ ((xS z d_18).1 0).toInt = -1 := h_40
                have hl1 : ¬ (z.1 (34 + 2 * d_18 + 0)).toInt = -1 := h_40
                refine lv_if_eq (tgt := 55) hx hb dX6_copy_46 (by decide) (fun c_50 => ?_) (fun c_50 => ?_)
                · skip
                  refine lv_aload hx hb dX6_copy_55 (lv_at hl 1 rfl) ?_
                  refine va_get (D := (dC, dI)) (ci := 5) (v := .int (z.1 (34 + 2 * d_17 + 0))) (C := RX5) (T := TX5) (N := 3) hx hb htb inw5 hown hK.1 hP (28 + 2 * d_17) (zX_S0 hd_17) rfl 1 (by decide) (htb _ wmt1_160) (fun _ h9 => h9) rfl dX6_copy_57 ?_
                  refine lv_topi (fun x_51 ex_51 => ?_)
                  have hx_51 : x_51.toInt = (z.1 (34 + 2 * d_17 + 0)).toInt := by rw [ex_51]
                  refine lv_aload hx hb dX6_copy_60 (lv_at hl 0 rfl) ?_
                  refine va_get (D := (dC, dI)) (ci := 5) (v := .int (z.1 (34 + 2 * d_18 + 0))) (C := RX5) (T := TX5) (N := 3) hx hb htb inw5 hown hK.1 hP (28 + 2 * d_18) (zX_S0 hd_18) rfl 1 (by decide) (htb _ wmt1_160) (fun _ h9 => h9) rfl dX6_copy_62 ?_
                  refine lv_topi (fun x_52 ex_52 => ?_)
                  have hx_52 : x_52.toInt = (z.1 (34 + 2 * d_18 + 0)).toInt := by rw [ex_52]
                  refine lv_icmp_eq (tgt := 74) hx hb dX6_copy_65 (by decide) (fun c_53 => ?_) (fun c_53 => ?_)
                  · skip
                    have hc_53 := zb_eq rfl rfl c_53
                    refine lv_aload hx hb dX6_copy_74 (lv_at hl 1 rfl) ?_
                    refine lv_iload_n hx hb dX6_copy_76 rfl (lv_at hl 4 rfl) ?_
                    refine lv_iload hx hb dX6_copy_77 (lv_at hl 7 rfl) ?_
                    refine zcS_i (w := (zX k q z)) (wc := (zS k (qS q d_17) (xS z d_17))) (va_runV (As := [.int i, .int n]) (rest := []) ⟨hx, hb, hml, hown, htb⟩ (c_X5_hasItems l dC dI k (qS q d_17) (xS z d_17) i n _ (XInv_S hd_17 hI)) (cwV 2 htb (gzV wmt3_112 wmt3_113 wmt3_114 wmt1_7 wmt3_115) rfl rfl rfl (by decide +kernel) ⟨Nat.le_of_ble_eq_true rfl, Nat.le_of_ble_eq_true rfl⟩) (zp_V (ci := 5) (q0 := (28 + 2 * d_17)) hK hP (hDa _) [28 + 2 * d_17, 29 + 2 * d_17] (zX_SC hd_17) (zX_ndS hd_17) rfl (zX_S0 hd_17)) rfl rfl hl.1 rfl (lv_room (Nat.le_of_ble_eq_true rfl)) dX6_copy_79 ⟨Nat.le_of_ble_eq_true rfl, Nat.le_of_ble_eq_true rfl⟩) hP (hDa _) hS hA [28 + 2 * d_17, 29 + 2 * d_17] (zX_SC hd_17) (fun _ => rfl) (fun r_54 u_55 H locs w_56 hP _ hS => ?_)
                    have hP : va_P (dC, dI) vwCl (zX k q z) H := (zX_Skeep hd_17) ▸ hP
                    rcases w_56 with ⟨e_58, h_57⟩ | ⟨e_60, h_59⟩
                    · skip
                      replace e_58 : r_54 = 1 := e_58
                      subst e_58
                      replace h_57 : 0 ≤ i.toInt ∧ 0 ≤ n.toInt ∧ n.toInt ≤ ((xS z d_17).1 1).toInt ∧ i.toInt ≤ ((xS z d_17).1 1).toInt - n.toInt := h_57
                      have hc0 : 0 ≤ i.toInt ∧ 0 ≤ n.toInt ∧ n.toInt ≤ (z.1 (34 + 2 * d_17 + 1)).toInt ∧ i.toInt ≤ (z.1 (34 + 2 * d_17 + 1)).toInt - n.toInt := h_57
                      refine lv_if_eq (tgt := 97) hx hb dX6_copy_82 (by decide) (fun c_61 => ?_) (fun c_61 => ?_)
                      · skip
                        exact absurd c_61 (by decide)
                      · skip
                        refine lv_aload hx hb dX6_copy_85 (lv_at hl 0 rfl) ?_
                        refine lv_iload hx hb dX6_copy_87 (lv_at hl 6 rfl) ?_
                        refine lv_iload hx hb dX6_copy_89 (lv_at hl 7 rfl) ?_
                        refine zcS_i (w := (zX k q z)) (wc := (zS k (qS q d_18) (xS z d_18))) (va_runV (As := [.int j, .int n]) (rest := []) ⟨hx, hb, hml, hown, htb⟩ (c_X5_hasItems l dC dI k (qS q d_18) (xS z d_18) j n _ (XInv_S hd_18 hI)) (cwV 2 htb (gzV wmt3_112 wmt3_113 wmt3_114 wmt1_7 wmt3_115) rfl rfl rfl (by decide +kernel) ⟨Nat.le_of_ble_eq_true rfl, Nat.le_of_ble_eq_true rfl⟩) (zp_V (ci := 5) (q0 := (28 + 2 * d_18)) hK hP (hDa _) [28 + 2 * d_18, 29 + 2 * d_18] (zX_SC hd_18) (zX_ndS hd_18) rfl (zX_S0 hd_18)) rfl rfl hl.1 rfl (lv_room (Nat.le_of_ble_eq_true rfl)) dX6_copy_91 ⟨Nat.le_of_ble_eq_true rfl, Nat.le_of_ble_eq_true rfl⟩) hP (hDa _) hS hA [28 + 2 * d_18, 29 + 2 * d_18] (zX_SC hd_18) (fun _ => rfl) (fun r_62 u_63 H locs w_64 hP _ hS => ?_)
                        have hP : va_P (dC, dI) vwCl (zX k q z) H := (zX_Skeep hd_18) ▸ hP
                        rcases w_64 with ⟨e_66, h_65⟩ | ⟨e_68, h_67⟩
                        · skip
                          replace e_66 : r_62 = 1 := e_66
                          subst e_66
                          replace h_65 : 0 ≤ j.toInt ∧ 0 ≤ n.toInt ∧ n.toInt ≤ ((xS z d_18).1 1).toInt ∧ j.toInt ≤ ((xS z d_18).1 1).toInt - n.toInt := h_65
                          have hc1 : 0 ≤ j.toInt ∧ 0 ≤ n.toInt ∧ n.toInt ≤ (z.1 (34 + 2 * d_18 + 1)).toInt ∧ j.toInt ≤ (z.1 (34 + 2 * d_18 + 1)).toInt - n.toInt := h_65
                          refine lv_if_ne (tgt := 103) hx hb dX6_copy_94 (by decide) (fun c_69 => ?_) (fun c_69 => ?_)
                          · skip
                            refine lv_aload hx hb dX6_copy_103 (lv_at hl 1 rfl) ?_
                            refine va_get (D := (dC, dI)) (ci := 5) (v := .ref (qS q d_17 1)) (C := RX5) (T := TX5) (N := 3) hx hb htb inw5 hown hK.1 hP (28 + 2 * d_17) (zX_S0 hd_17) rfl 0 (by decide) (htb _ wmt1_158) (fun _ h9 => h9) rfl dX6_copy_105 ?_
                            refine lv_iload_n hx hb dX6_copy_108 rfl (lv_at hl 4 rfl) ?_
                            refine lv_aload hx hb dX6_copy_109 (lv_at hl 0 rfl) ?_
                            refine va_get (D := (dC, dI)) (ci := 5) (v := .ref (qS q d_18 1)) (C := RX5) (T := TX5) (N := 3) hx hb htb inw5 hown hK.1 hP (28 + 2 * d_18) (zX_S0 hd_18) rfl 0 (by decide) (htb _ wmt1_158) (fun _ h9 => h9) rfl dX6_copy_111 ?_
                            refine lv_iload hx hb dX6_copy_114 (lv_at hl 6 rfl) ?_
                            refine lv_iload hx hb dX6_copy_116 (lv_at hl 7 rfl) ?_
                            have hq0 := XInv_S hd_17 hI
                            have hq1 := XInv_S hd_18 hI
                            unfold XR at hq0 hq1
                            refine va_copyi (D := (dC, dI)) (ty := .int) hx hb (hml.trans hl.1.symm) hown (htb _ wmt3_129) (htb _ wmt3_131) (htb _ wmt3_130) (htb _ wmt1_11) hK.1 hP (hDa _) hS (29 + 2 * d_17) (29 + 2 * d_18) 0 0 (zX_S1 hd_17) (zX_S1 hd_18) rfl rfl rfl (z_nlt0 hc0.1) (z_nlt0 hc1.1) (z_nlt0 hc0.2.1) (z_cp hc0.1 hc0.2.1 (by have q1 : i.toInt ≤ _ - n.toInt := hc0.2.2.2; omega)) (z_cp hc1.1 hc1.2.1 (by have q1 : j.toInt ≤ _ - n.toInt := hc1.2.2.2; omega)) (fun _ _ => rfl) (Nat.le_of_ble_eq_true rfl) (Nat.le_of_ble_eq_true rfl) dX6_copy_118 (fun H locs hP _ hS => ?_)
                            obtain ⟨z_70, ez_70⟩ : ∃ x : ZS, x = sA z (12 + d_18) (va_cpy (z.2.2.1 (12 + d_17 + 0)) (z.2.2.1 (12 + d_18 + 0)) i.toNatClampNeg j.toNatClampNeg n.toNatClampNeg) := ⟨_, rfl⟩
                            have hP : va_P (dC, dI) vwCl (zX k q z_70) H := by rw [ez_70]; exact (zX_cpy hd_18) ▸ hP
                            have hI : XInv z_70 := by rw [ez_70]; exact XInv_it hd_18 hI
                            have hcp : trX z_70 = tSt (trX z) d_18 (va_cpy (tIt (trX z) d_17) (tIt (trX z) d_18) i.toNatClampNeg j.toNatClampNeg n.toNatClampNeg) := by rw [ez_70, trX_it hd_18, cR_cpy (by have q3 := z_clamp (x := i) hc0.1; have q4 := z_clamp (x := n) hc0.2.1; omega) (by have q3 := z_clamp (x := j) hc1.1; have q4 := z_clamp (x := n) hc0.2.1; omega), ← trX_Ig hd_17, ← trX_Ig hd_18]; rfl
                            refine lv_iconst (v := 1) hx hb dX6_copy_121 (by decide) ?_
                            exact W.iret (v := 1) hx hb hr (fun t ht hW => ⟨⟨1, z_70, rfl, ⟨hI, tCopy2_ok (tCopy_0 (by omega) ed_17 ed_18 (trX_Sg hd_17).1 (trX_Sg hd_18).1 (trX_Sg hd_17).2 (trX_Sg hd_18).2 (by omega) (by omega) (by omega) rfl) rfl ed_17 ed_18 hcp⟩, ⟨by rw [ht]; exact hP, hDa _⟩⟩, hS.F ht⟩) hS.2.2 dX6_copy_122
                          · skip
                            exact absurd c_69 (by decide)
                        · skip
                          replace e_68 : r_62 = 0 := e_68
                          subst e_68
                          replace h_67 : ¬ (0 ≤ j.toInt ∧ 0 ≤ n.toInt ∧ n.toInt ≤ ((xS z d_18).1 1).toInt ∧ j.toInt ≤ ((xS z d_18).1 1).toInt - n.toInt) := h_67
                          have hc1 : ¬ (0 ≤ j.toInt ∧ 0 ≤ n.toInt ∧ n.toInt ≤ (z.1 (34 + 2 * d_18 + 1)).toInt ∧ j.toInt ≤ (z.1 (34 + 2 * d_18 + 1)).toInt - n.toInt) := h_67
                          refine lv_if_ne (tgt := 103) hx hb dX6_copy_94 (by decide) (fun c_71 => ?_) (fun c_71 => ?_)
                          · skip
                            exact absurd c_71 (by decide)
                          · skip
                            refine lv_aload_n hx hb dX6_copy_97 rfl (lv_at hl 2 rfl) ?_
                            refine lv_iconst (v := 2) hx hb dX6_copy_98 (by decide) ?_
                            refine zcA_i (w := (zX k q z)) (va_runV (As := [.int 2]) (rest := []) ⟨hx, hb, hml, hown, htb⟩ (c_X6_found l dC dI k q z 2 _ hI) (cwV 1 htb (gzV wmt2_102 wmt2_104 wmp1_7 wmt1_1 wmt2_105) rfl rfl rfl (by decide +kernel) ⟨Nat.le_of_ble_eq_true rfl, Nat.le_of_ble_eq_true rfl⟩) (zpA_V (ci := 6) (q0 := 0) hK hP (hDa _) rfl rfl) rfl rfl hl.1 rfl (lv_room (Nat.le_of_ble_eq_true rfl)) dX6_copy_99 ⟨Nat.le_of_ble_eq_true rfl, Nat.le_of_ble_eq_true rfl⟩) (hDa _) hS hA (fun r_72 u_73 H locs w_74 hP _ hS => ?_)
                            obtain ⟨h_75, h_76, h_77⟩ := w_74
                            replace h_75 : XInv u_73 := h_75
                            replace h_76 : trX u_73 = trX z := h_76
                            replace h_77 : r_72 = (-10) - (2 : Int32) := h_77
                            have hI := h_75
                            have hT := h_76.trans hT
                            have hfd : r_72 = -12 := h_77.trans (by decide)
                            exact W.iret (v := r_72) hx hb hr (fun t ht hW => ⟨⟨r_72, u_73, rfl, ⟨hI, tCopy2_no (tCopy_2 (by omega) ed_17 ed_18 (trX_Sg hd_17).1 (trX_Sg hd_18).1 (trX_Sg hd_17).2 (trX_Sg hd_18).2 (by omega) (by omega) (by omega) hfd) (by rw [hfd]; decide) hT⟩, ⟨by rw [ht]; exact hP, hDa _⟩⟩, hS.F ht⟩) hS.2.2 dX6_copy_102
                    · skip
                      replace e_60 : r_54 = 0 := e_60
                      subst e_60
                      replace h_59 : ¬ (0 ≤ i.toInt ∧ 0 ≤ n.toInt ∧ n.toInt ≤ ((xS z d_17).1 1).toInt ∧ i.toInt ≤ ((xS z d_17).1 1).toInt - n.toInt) := h_59
                      have hc0 : ¬ (0 ≤ i.toInt ∧ 0 ≤ n.toInt ∧ n.toInt ≤ (z.1 (34 + 2 * d_17 + 1)).toInt ∧ i.toInt ≤ (z.1 (34 + 2 * d_17 + 1)).toInt - n.toInt) := h_59
                      refine lv_if_eq (tgt := 97) hx hb dX6_copy_82 (by decide) (fun c_79 => ?_) (fun c_79 => ?_)
                      · skip
                        refine lv_aload_n hx hb dX6_copy_97 rfl (lv_at hl 2 rfl) ?_
                        refine lv_iconst (v := 2) hx hb dX6_copy_98 (by decide) ?_
                        refine zcA_i (w := (zX k q z)) (va_runV (As := [.int 2]) (rest := []) ⟨hx, hb, hml, hown, htb⟩ (c_X6_found l dC dI k q z 2 _ hI) (cwV 1 htb (gzV wmt2_102 wmt2_104 wmp1_7 wmt1_1 wmt2_105) rfl rfl rfl (by decide +kernel) ⟨Nat.le_of_ble_eq_true rfl, Nat.le_of_ble_eq_true rfl⟩) (zpA_V (ci := 6) (q0 := 0) hK hP (hDa _) rfl rfl) rfl rfl hl.1 rfl (lv_room (Nat.le_of_ble_eq_true rfl)) dX6_copy_99 ⟨Nat.le_of_ble_eq_true rfl, Nat.le_of_ble_eq_true rfl⟩) (hDa _) hS hA (fun r_80 u_81 H locs w_82 hP _ hS => ?_)
                        obtain ⟨h_83, h_84, h_85⟩ := w_82
                        replace h_83 : XInv u_81 := h_83
                        replace h_84 : trX u_81 = trX z := h_84
                        replace h_85 : r_80 = (-10) - (2 : Int32) := h_85
                        have hI := h_83
                        have hT := h_84.trans hT
                        have hfd : r_80 = -12 := h_85.trans (by decide)
                        exact W.iret (v := r_80) hx hb hr (fun t ht hW => ⟨⟨r_80, u_81, rfl, ⟨hI, tCopy2_no (tCopy_2 (by omega) ed_17 ed_18 (trX_Sg hd_17).1 (trX_Sg hd_18).1 (trX_Sg hd_17).2 (trX_Sg hd_18).2 (by omega) (by omega) (by omega) hfd) (by rw [hfd]; decide) hT⟩, ⟨by rw [ht]; exact hP, hDa _⟩⟩, hS.F ht⟩) hS.2.2 dX6_copy_102
                      · skip
                        exact absurd (by decide) c_79
                  · skip
                    have hc_53 := zb_ne rfl rfl c_53
                    refine lv_aload_n hx hb dX6_copy_68 rfl (lv_at hl 2 rfl) ?_
                    refine lv_iconst (v := 4) hx hb dX6_copy_69 (by decide) ?_
                    refine zcA_i (w := (zX k q z)) (va_runV (As := [.int 4]) (rest := []) ⟨hx, hb, hml, hown, htb⟩ (c_X6_found l dC dI k q z 4 _ hI) (cwV 1 htb (gzV wmt2_102 wmt2_104 wmp1_7 wmt1_1 wmt2_105) rfl rfl rfl (by decide +kernel) ⟨Nat.le_of_ble_eq_true rfl, Nat.le_of_ble_eq_true rfl⟩) (zpA_V (ci := 6) (q0 := 0) hK hP (hDa _) rfl rfl) rfl rfl hl.1 rfl (lv_room (Nat.le_of_ble_eq_true rfl)) dX6_copy_70 ⟨Nat.le_of_ble_eq_true rfl, Nat.le_of_ble_eq_true rfl⟩) (hDa _) hS hA (fun r_87 u_88 H locs w_89 hP _ hS => ?_)
                    obtain ⟨h_90, h_91, h_92⟩ := w_89
                    replace h_90 : XInv u_88 := h_90
                    replace h_91 : trX u_88 = trX z := h_91
                    replace h_92 : r_87 = (-10) - (4 : Int32) := h_92
                    have hI := h_90
                    have hT := h_91.trans hT
                    have hfd : r_87 = -14 := h_92.trans (by decide)
                    exact W.iret (v := r_87) hx hb hr (fun t ht hW => ⟨⟨r_87, u_88, rfl, ⟨hI, tCopy2_no (tCopy_4 (by omega) ed_17 ed_18 (trX_Sg hd_17).1 (trX_Sg hd_18).1 (by omega) (by omega) hfd) (by rw [hfd]; decide) hT⟩, ⟨by rw [ht]; exact hP, hDa _⟩⟩, hS.F ht⟩) hS.2.2 dX6_copy_73
                · skip
                  exact absurd (by decide) c_50
        · skip
          exact absurd c_16 (by decide)
      · skip
        replace e_15 : r_9 = 0 := e_15
        subst e_15
        replace h_14 : ¬ (0 ≤ z02.toInt ∧ z02.toInt < 4) := h_14
        refine lv_if_ne (tgt := 17) hx hb dX6_copy_11 (by decide) (fun c_94 => ?_) (fun c_94 => ?_)
        · skip
          exact absurd c_94 (by decide)
        · skip
          refine lv_bipush (v := (-2)) hx hb dX6_copy_14 (by decide) ?_
          exact W.iret (v := (-2)) hx hb hr (fun t ht hW => ⟨⟨(-2), z, rfl, ⟨hI, tCopy2_no (tCopy_bad (by omega)) (by decide) hT⟩, ⟨by rw [ht]; exact hP, hDa _⟩⟩, hS.F ht⟩) hS.2.2 dX6_copy_16
  · skip
    replace e_7 : r_1 = 0 := e_7
    subst e_7
    replace h_6 : ¬ (0 ≤ z0.toInt ∧ z0.toInt < 4) := h_6
    refine lv_if_eq (tgt := 14) hx hb dX6_copy_4 (by decide) (fun c_95 => ?_) (fun c_95 => ?_)
    · skip
      refine lv_bipush (v := (-2)) hx hb dX6_copy_14 (by decide) ?_
      exact W.iret (v := (-2)) hx hb hr (fun t ht hW => ⟨⟨(-2), z, rfl, ⟨hI, tCopy2_no (tCopy_bad (by omega)) (by decide) hT⟩, ⟨by rw [ht]; exact hP, hDa _⟩⟩, hS.F ht⟩) hS.2.2 dX6_copy_16
    · skip
      exact absurd (by decide) c_95
set_option maxHeartbeats 4000000 in
set_option maxRecDepth 100000 in
theorem c_X6_write (l : Launch) (dC : Nat → ClassId) (dI : Nat → Nat → Nat) (k : Nat → ClassId) (q : Nat → Nat) (z : ZS) (d : Int32) (z0 : Int32) (sz : Nat) (hI : XInv z) : Met l yX6_write (wz yX6_write cX6_write 6 (some .int)) ({ frames := 6, cells := 0, slots := 0, locals := 145 }) (va_Pc [.ref (q 0), .int d, .int z0] (zPre dC dI k (zTX k) (zX k q z) sz)) (va_Qi (fun (r : Int32) (u : ZS) => (XInv u) ∧ ((r, trX u) = tWrite2 (trX z) d z0)) (fun u t => zPost dC dI (va_A (zX k q z) sz) (zX k q u) t) (va_A (zX k q z) sz)) 0 0 (va_A (zX k q z) sz) := by
  refine Met.ofW (cc := cX6_write) (maxL := 6) (ret := (some .int)) (by decide) rfl ?_
  intro p e s m args below meth c s₁ B hml hv
  obtain ⟨rfl, hsz, hP, hK, hD0⟩ := hv
  have hx := B.exec
  have hb := B.bytes
  have hr := B.returns
  have hts := atoms_spec (ws := wz yX6_write cX6_write 6 (some .int)) B.pre
  have htb : ∀ w ∈ zw, w.before _ s = true := fun w h => hts w (List.mem_cons_of_mem _ h)
  have hown : s.vm.findClass RX6 = some m.cls := findClass_of_methodNamed B.named
  have hlocks := B.notSynchronized
  clear hts
  subst hsz
  have hD := hD0.self (sz := s.heap.size)
  generalize hAe : va_A (zX k q z) s.heap.size = A at hD ⊢
  have hA : ∀ q : Nat, s.heap.size ≤ q → A q := fun q h => by rw [← hAe]; exact Or.inr h
  have hDa : ∀ z9 : ZS, va_D A (zX k q z9) := fun z9 => va_D_adr (w := zX k q z) rfl hD
  have hl := lv_entry ([.ref (q 0), .int d, .int z0]) (n := 6) (Nat.le_of_ble_eq_true rfl)
  rw [lg_entry_eq]
  generalize (lg_sl ([.ref (q 0), .int d, .int z0]) ++ List.replicate (6 - (lg_sl ([.ref (q 0), .int d, .int z0])).length) Slot.unset).toArray = ls at hl ⊢
  have hl : lv_has ls 6 [(0, .ref (q 0)), (1, .int d), (2, .int z0)] := hl
  refine z_start2 (A := A) (w := (zX k q z)) hP (fun H locs hP hS => ?_)
  clear hD0 hAe
  have hT : trX z = trX z := rfl
  refine lv_iload_n hx hb dX6_write_0 rfl (lv_at hl 1 rfl) ?_
  refine zc0_i (w := (zX k q z)) (va_runS (As := [.int d]) (rest := []) ⟨hx, hb, hml, hown, htb⟩ (c_X6_isDesign l dC dI k d _ ) (va_cwS 1 htb (gzS wmt1_211 wmt1_212 wmt1_1 wmt1_213) rfl rfl rfl (by decide +kernel) ⟨Nat.le_of_ble_eq_true rfl, Nat.le_of_ble_eq_true rfl⟩) (zp0_S hK) rfl rfl hl.1 rfl (lv_room (Nat.le_of_ble_eq_true rfl)) dX6_write_1 ⟨Nat.le_of_ble_eq_true rfl, Nat.le_of_ble_eq_true rfl⟩) hP hS hA (fun r_1 u_2 H locs w_3 hP hS => ?_)
  rcases w_3 with ⟨e_5, h_4⟩ | ⟨e_7, h_6⟩
  · skip
    replace e_5 : r_1 = 1 := e_5
    subst e_5
    replace h_4 : 0 ≤ d.toInt ∧ d.toInt < 4 := h_4
    refine lv_if_eq (tgt := 14) hx hb dX6_write_4 (by decide) (fun c_8 => ?_) (fun c_8 => ?_)
    · skip
      exact absurd c_8 (by decide)
    · skip
      refine lv_iload_n hx hb dX6_write_7 rfl (lv_at hl 2 rfl) ?_
      refine zc0_i (w := (zX k q z)) (va_runS (As := [.int z0]) (rest := []) ⟨hx, hb, hml, hown, htb⟩ (c_X6_isSheet l dC dI k z0 _ ) (va_cwS 1 htb (gzS wmt2_95 wmt2_96 wmt1_1 wmt2_97) rfl rfl rfl (by decide +kernel) ⟨Nat.le_of_ble_eq_true rfl, Nat.le_of_ble_eq_true rfl⟩) (zp0_S hK) rfl rfl hl.1 rfl (lv_room (Nat.le_of_ble_eq_true rfl)) dX6_write_8 ⟨Nat.le_of_ble_eq_true rfl, Nat.le_of_ble_eq_true rfl⟩) hP hS hA (fun r_9 u_10 H locs w_11 hP hS => ?_)
      rcases w_11 with ⟨e_13, h_12⟩ | ⟨e_15, h_14⟩
      · skip
        replace e_13 : r_9 = 1 := e_13
        subst e_13
        replace h_12 : 0 ≤ z0.toInt ∧ z0.toInt < 4 := h_12
        refine lv_if_ne (tgt := 17) hx hb dX6_write_11 (by decide) (fun c_16 => ?_) (fun c_16 => ?_)
        · skip
          refine lv_aload_n hx hb dX6_write_17 rfl (lv_at hl 0 rfl) ?_
          refine va_get (D := (dC, dI)) (ci := 6) (v := .ref (q 2)) (C := RX6) (T := TX6) (N := 12) hx hb htb inw6 hown hK.1 hP 0 rfl rfl 1 (by decide) (htb _ wmt1_171) (fun _ h9 => h9) rfl dX6_write_18 ?_
          refine lv_iload_n hx hb dX6_write_21 rfl (lv_at hl 2 rfl) ?_
          refine va_aldq (D := (dC, dI)) hx hb hK.1 hP 2 4 rfl rfl (z_in (by omega)) dX6_write_22 ?_
          obtain ⟨d_17, ed_17⟩ : ∃ x : Nat, x = z0.toNatClampNeg := ⟨_, rfl⟩
          have hd_17 : d_17 < 4 := by rw [ed_17]; exact z_cl4 (by omega)
          refine z_top (v2 := .ref (qS q d_17 0)) (zgS_at2 ed_17 hd_17) ?_
          refine lv_astore_n (lv' := [(3, .ref (qS q d_17 0)), (0, .ref (q 0)), (1, .int d), (2, .int z0)]) hx hb dX6_write_23 rfl hl (by decide) rfl (fun ls hl => ?_)
          refine lv_aload_n hx hb dX6_write_24 rfl (lv_at hl 0 rfl) ?_
          refine zcS_i (w := (zX k q z)) (wc := (zS k (qS q d_17) (xS z d_17))) (va_runV (As := []) (rest := []) ⟨hx, hb, hml, hown, htb⟩ (c_X5_isLost l dC dI k (qS q d_17) (xS z d_17) _ ) (cwV 0 htb (gzV wmt2_98 wmt2_99 wmt2_100 wmt1_7 wmt2_101) rfl rfl rfl (by decide +kernel) ⟨Nat.le_of_ble_eq_true rfl, Nat.le_of_ble_eq_true rfl⟩) (zp_V (ci := 5) (q0 := (28 + 2 * d_17)) hK hP (hDa _) [28 + 2 * d_17, 29 + 2 * d_17] (zX_SC hd_17) (zX_ndS hd_17) rfl (zX_S0 hd_17)) rfl rfl hl.1 rfl (lv_room (Nat.le_of_ble_eq_true rfl)) dX6_write_25 ⟨Nat.le_of_ble_eq_true rfl, Nat.le_of_ble_eq_true rfl⟩) hP (hDa _) hS hA [28 + 2 * d_17, 29 + 2 * d_17] (zX_SC hd_17) (fun _ => rfl) (fun r_18 u_19 H locs w_20 hP _ hS => ?_)
          have hP : va_P (dC, dI) vwCl (zX k q z) H := (zX_Skeep hd_17) ▸ hP
          rcases w_20 with ⟨e_22, h_21⟩ | ⟨e_24, h_23⟩
          · skip
            replace e_22 : r_18 = 1 := e_22
            subst e_22
            replace h_21 : ((xS z d_17).1 0).toInt = -1 := h_21
            have hl0 : (z.1 (34 + 2 * d_17 + 0)).toInt = -1 := h_21
            refine lv_if_eq (tgt := 37) hx hb dX6_write_28 (by decide) (fun c_25 => ?_) (fun c_25 => ?_)
            · skip
              exact absurd c_25 (by decide)
            · skip
              refine lv_aload_n hx hb dX6_write_31 rfl (lv_at hl 1 rfl) ?_
              refine lv_iconst (v := 1) hx hb dX6_write_32 (by decide) ?_
              refine zcA_i (w := (zX k q z)) (va_runV (As := [.int 1]) (rest := []) ⟨hx, hb, hml, hown, htb⟩ (c_X6_found l dC dI k q z 1 _ hI) (cwV 1 htb (gzV wmt2_102 wmt2_104 wmp1_7 wmt1_1 wmt2_105) rfl rfl rfl (by decide +kernel) ⟨Nat.le_of_ble_eq_true rfl, Nat.le_of_ble_eq_true rfl⟩) (zpA_V (ci := 6) (q0 := 0) hK hP (hDa _) rfl rfl) rfl rfl hl.1 rfl (lv_room (Nat.le_of_ble_eq_true rfl)) dX6_write_33 ⟨Nat.le_of_ble_eq_true rfl, Nat.le_of_ble_eq_true rfl⟩) (hDa _) hS hA (fun r_26 u_27 H locs w_28 hP _ hS => ?_)
              obtain ⟨h_29, h_30, h_31⟩ := w_28
              replace h_29 : XInv u_27 := h_29
              replace h_30 : trX u_27 = trX z := h_30
              replace h_31 : r_26 = (-10) - (1 : Int32) := h_31
              have hI := h_29
              have hT := h_30.trans hT
              have hfd : r_26 = -11 := h_31.trans (by decide)
              exact W.iret (v := r_26) hx hb hr (fun t ht hW => ⟨⟨r_26, u_27, rfl, ⟨hI, tWrite2_no (tWrite_1 (by omega) ed_17 (trX_Sg hd_17).1 hl0 hfd) (by rw [hfd]; decide) hT⟩, ⟨by rw [ht]; exact hP, hDa _⟩⟩, hS.F ht⟩) hS.2.2 dX6_write_36
          · skip
            replace e_24 : r_18 = 0 := e_24
            subst e_24
            replace h_23 : ¬ ((xS z d_17).1 0).toInt = -1 := h_23
            have hl0 : ¬ (z.1 (34 + 2 * d_17 + 0)).toInt = -1 := h_23
            refine lv_if_eq (tgt := 37) hx hb dX6_write_28 (by decide) (fun c_33 => ?_) (fun c_33 => ?_)
            · skip
              refine lv_aload_n hx hb dX6_write_37 rfl (lv_at hl 1 rfl) ?_
              refine va_get (D := (dC, dI)) (ci := 6) (v := .ref (q 1)) (C := RX6) (T := TX6) (N := 12) hx hb htb inw6 hown hK.1 hP 0 rfl rfl 0 (by decide) (htb _ wmt1_170) (fun _ h9 => h9) rfl dX6_write_38 ?_
              refine lv_iload_n hx hb dX6_write_41 rfl (lv_at hl 2 rfl) ?_
              refine va_aldq (D := (dC, dI)) hx hb hK.1 hP 1 3 rfl rfl (z_in (by omega)) dX6_write_42 ?_
              obtain ⟨d_34, ed_34⟩ : ∃ x : Nat, x = d.toNatClampNeg := ⟨_, rfl⟩
              have hd_34 : d_34 < 4 := by rw [ed_34]; exact z_cl4 (by omega)
              refine z_top (v2 := .ref (qD q d_34 0)) (zgD_at2 ed_34 hd_34) ?_
              refine zcS_i (w := (zX k q z)) (wc := (zD k (qD q d_34) (xD z d_34))) (va_runV (As := []) (rest := []) ⟨hx, hb, hml, hown, htb⟩ (c_X1_isFaulty l dC dI k (qD q d_34) (xD z d_34) _ ) (cwV 0 htb (gzV wmt2_55 wmt2_20 wmt2_21 wmt1_6 wmt2_22) rfl rfl rfl (by decide +kernel) ⟨Nat.le_of_ble_eq_true rfl, Nat.le_of_ble_eq_true rfl⟩) (zp_V (ci := 1) (q0 := (16 + 3 * d_34)) hK hP (hDa _) [16 + 3 * d_34, 17 + 3 * d_34, 18 + 3 * d_34] (zX_DC hd_34) (zX_ndD hd_34) rfl (zX_D0 hd_34)) rfl rfl hl.1 rfl (lv_room (Nat.le_of_ble_eq_true rfl)) dX6_write_43 ⟨Nat.le_of_ble_eq_true rfl, Nat.le_of_ble_eq_true rfl⟩) hP (hDa _) hS hA [16 + 3 * d_34, 17 + 3 * d_34, 18 + 3 * d_34] (zX_DC hd_34) (fun _ => rfl) (fun r_35 u_36 H locs w_37 hP _ hS => ?_)
              have hP : va_P (dC, dI) vwCl (zX k q z) H := (zX_Dkeep hd_34) ▸ hP
              rcases w_37 with ⟨e_39, h_38⟩ | ⟨e_41, h_40⟩
              · skip
                replace e_39 : r_35 = 1 := e_39
                subst e_39
                replace h_38 : ¬ ((xD z d_34).1 2).toInt = -1 := h_38
                have hfw : ¬ (z.1 (10 + 6 * d_34 + 2)).toInt = -1 := h_38
                refine lv_if_eq (tgt := 52) hx hb dX6_write_46 (by decide) (fun c_42 => ?_) (fun c_42 => ?_)
                · skip
                  exact absurd c_42 (by decide)
                · skip
                  refine lv_bipush (v := (-3)) hx hb dX6_write_49 (by decide) ?_
                  exact W.iret (v := (-3)) hx hb hr (fun t ht hW => ⟨⟨(-3), z, rfl, ⟨hI, tWrite2_no (tWrite_3 (by omega) ed_17 ed_34 (trX_Sg hd_17).1 hl0 (trX_Fg hd_34) hfw rfl) (by decide) hT⟩, ⟨by rw [ht]; exact hP, hDa _⟩⟩, hS.F ht⟩) hS.2.2 dX6_write_51
              · skip
                replace e_41 : r_35 = 0 := e_41
                subst e_41
                replace h_40 : ((xD z d_34).1 2).toInt = -1 := h_40
                have hfw : (z.1 (10 + 6 * d_34 + 2)).toInt = -1 := h_40
                refine lv_if_eq (tgt := 52) hx hb dX6_write_46 (by decide) (fun c_43 => ?_) (fun c_43 => ?_)
                · skip
                  refine lv_aload_n hx hb dX6_write_52 rfl (lv_at hl 0 rfl) ?_
                  refine va_get (D := (dC, dI)) (ci := 5) (v := .int (z.1 (34 + 2 * d_17 + 1))) (C := RX5) (T := TX5) (N := 3) hx hb htb inw5 hown hK.1 hP (28 + 2 * d_17) (zX_S0 hd_17) rfl 2 (by decide) (htb _ wmt1_162) (fun _ h9 => h9) rfl dX6_write_53 ?_
                  refine lv_topi (fun x_44 ex_44 => ?_)
                  have hx_44 : x_44.toInt = (z.1 (34 + 2 * d_17 + 1)).toInt := by rw [ex_44]
                  have hzx_44 := XInv_S hd_17 hI
                  unfold XR at hzx_44
                  refine lv_bipush (v := 24) hx hb dX6_write_56 (by decide) ?_
                  refine va_mmin hx hb (hml.trans hl.1.symm) hown (htb _ wmt3_35) (htb _ wmt3_36) (htb _ wmt1_10) (htb _ wmt3_37) (Nat.le_of_ble_eq_true rfl) (Nat.le_of_ble_eq_true rfl) (Nat.le_of_ble_eq_true rfl) (Nat.le_of_ble_eq_true rfl) dX6_write_58 ?_
                  refine lv_topi (fun x_45 ex_45 => ?_)
                  have hx_45 : 0 ≤ x_45.toInt ∧ x_45.toInt ≤ 24 := z_min24 ex_45 (by omega)
                  have hmn := z_min24e ex_45
                  refine lv_istore (lv' := [(4, .int x_45), (3, .ref (qS q d_17 0)), (0, .ref (q 0)), (1, .int d), (2, .int z0)]) hx hb dX6_write_61 hl (by decide) rfl (fun ls hl => ?_)
                  refine lv_iconst (v := 0) hx hb dX6_write_63 (by decide) ?_
                  refine lv_istore (lv' := [(5, .int 0), (4, .int x_45), (3, .ref (qS q d_17 0)), (0, .ref (q 0)), (1, .int d), (2, .int z0)]) hx hb dX6_write_64 hl (by decide) rfl (fun ls hl => ?_)
                  obtain ⟨i, ei⟩ : ∃ x : Int32, 0 = x := ⟨_, rfl⟩
                  obtain ⟨z1, ez1⟩ : ∃ x : ZS, z = x := ⟨_, rfl⟩
                  have hv66 : (0 ≤ i.toInt ∧ i.toInt ≤ 24) ∧ (i.toInt ≤ x_45.toInt) ∧ (XInv z1) ∧ (trX z1 = tSt (trX z) z0.toNatClampNeg (wrR (tIt (trX z) z0.toNatClampNeg) i.toInt)) := by subst ei ez1; exact ⟨(by decide), (by have q0 : (0 : Int32).toInt = 0 := (by decide); omega), hI, (hT.trans (tSt_self (wrR_0 (by decide))).symm)⟩
                  replace hl : lv_has ls 6 [(5, .int i), (4, .int x_45), (3, .ref (qS q d_17 0)), (0, .ref (q 0)), (1, .int d), (2, .int z0)] := by subst ei ez1; exact hl
                  replace hP : va_P (dC, dI) vwCl (zX k q z1) H := by subst ez1; exact hP
                  clear ei ez1
                  obtain ⟨mm66, hm66⟩ : ∃ mm : Nat, mm = (24 - i.toInt).toNat := ⟨_, rfl⟩
                  refine z_cut2 hP hS hl ?_
                  clear hl hP
                  intro H locs ls hP hS hl
                  induction mm66 using Nat.strongRecOn generalizing i z1 H locs ls with
                  | _ mm66 ih66 =>
                    obtain ⟨hi, hiw, hI1, hWr⟩ := hv66
                    have hI := hI1
                    have hT : trX z1 = trX z1 := rfl
                    refine lv_iload hx hb dX6_write_66 (lv_at hl 0 rfl) ?_
                    refine lv_iload hx hb dX6_write_68 (lv_at hl 1 rfl) ?_
                    refine lv_icmp_ge (tgt := 100) hx hb dX6_write_70 (by decide) (fun c_46 => ?_) (fun c_46 => ?_)
                    · skip
                      have hc_46 := zb_le rfl rfl c_46
                      refine lv_iload hx hb dX6_write_100 (lv_at hl 1 rfl) ?_
                      exact W.iret (v := x_45) hx hb hr (fun t ht hW => ⟨⟨x_45, z1, rfl, ⟨hI, tWrite2_ok (tWrite_0 (by omega) ed_17 ed_34 (trX_Sg hd_17).1 hl0 (trX_Fg hd_34) hfw (trX_Sg hd_17).2 (by omega)) (by omega) ed_17 (by rw [hWr, show x_45.toInt = i.toInt by omega, ed_17])⟩, ⟨by rw [ht]; exact hP, hDa _⟩⟩, hS.F ht⟩) hS.2.2 dX6_write_102
                    · skip
                      have hc_46 := zb_nle rfl rfl c_46
                      refine lv_aload_n hx hb dX6_write_73 rfl (lv_at hl 2 rfl) ?_
                      refine lv_iload hx hb dX6_write_74 (lv_at hl 0 rfl) ?_
                      refine lv_aload_n hx hb dX6_write_76 rfl (lv_at hl 3 rfl) ?_
                      refine lv_iload hx hb dX6_write_77 (lv_at hl 0 rfl) ?_
                      refine lv_iload_n hx hb dX6_write_79 rfl (lv_at hl 4 rfl) ?_
                      refine zcA_i (w := (zX k q z1)) (va_runV (As := [.int i, .int d]) (rest := [.int i, .ref (qS q d_17 0)]) ⟨hx, hb, hml, hown, htb⟩ (c_X6_mayBeAsked l dC dI k q z1 i d _ hI (show 0 ≤ d.toInt ∧ d.toInt < 4 by omega)) (cwV 2 htb (gzV wmt3_46 wmt3_48 wmp2_2 wmt1_1 wmt3_49) rfl rfl rfl (by decide +kernel) ⟨Nat.le_of_ble_eq_true rfl, Nat.le_of_ble_eq_true rfl⟩) (zpA_V (ci := 6) (q0 := 0) hK hP (hDa _) rfl rfl) rfl rfl hl.1 rfl (lv_room (Nat.le_of_ble_eq_true rfl)) dX6_write_80 ⟨Nat.le_of_ble_eq_true rfl, Nat.le_of_ble_eq_true rfl⟩) (hDa _) hS hA (fun r_47 u_48 H locs w_49 hP _ hS => ?_)
                      obtain ⟨h_50, h_51⟩ := w_49
                      replace h_50 : XInv u_48 := h_50
                      replace h_51 : trX u_48 = trX z1 := h_51
                      have hI := h_50
                      have hT := h_51.trans hT
                      have hWr := h_51.trans hWr
                      refine lv_if_eq (tgt := 90) hx hb dX6_write_83 (by decide) (fun c_53 => ?_) (fun c_53 => ?_)
                      · skip
                        have hc_53 := zb_eq rfl (show (0 : Int32).toInt = 0 by decide) c_53
                        refine lv_iconst (v := 0) hx hb dX6_write_90 (by decide) ?_
                        refine zcS_v (w := (zX k q u_48)) (wc := (zS k (qS q d_17) (xS u_48 d_17))) (va_runV (As := [.int i, .int 0]) (rest := []) ⟨hx, hb, hml, hown, htb⟩ (c_X5_keep l dC dI k (qS q d_17) (xS u_48 d_17) i 0 _ (by omega)) (cwV 2 htb (gzV wmt3_116 wmt3_117 wmt3_118 wmt1_7 wmt3_119) rfl rfl rfl (by decide +kernel) ⟨Nat.le_of_ble_eq_true rfl, Nat.le_of_ble_eq_true rfl⟩) (zp_V (ci := 5) (q0 := (28 + 2 * d_17)) hK hP (hDa _) [28 + 2 * d_17, 29 + 2 * d_17] (zX_SC hd_17) (zX_ndS hd_17) rfl (zX_S0 hd_17)) rfl rfl hl.1 rfl (lv_room (Nat.le_of_ble_eq_true rfl)) dX6_write_91 ⟨Nat.le_of_ble_eq_true rfl, Nat.le_of_ble_eq_true rfl⟩) hP (hDa _) hS hA [28 + 2 * d_17, 29 + 2 * d_17] (zX_SC hd_17) (fun _ => rfl) (fun u_55 H locs w_56 hP _ hS => ?_)
                        obtain ⟨z_57, ez_57⟩ : ∃ x : ZS, x = (xsS u_48 d_17 u_55) := ⟨_, rfl⟩
                        have hP : va_P (dC, dI) vwCl (zX k q z_57) H := by rw [ez_57]; exact (zX_Sset hd_17) ▸ hP
                        obtain ⟨h_58, h_59, h_60⟩ := w_56
                        replace h_58 : u_55.1 0 = (xS u_48 d_17).1 0 := h_58
                        replace h_59 : u_55.1 1 = (xS u_48 d_17).1 1 := h_59
                        replace h_60 : u_55.2.2.1 0 = upd ((xS u_48 d_17).2.2.1 0) i.toNatClampNeg (nar3 ((xS u_48 d_17).1 0) (0 : Int32)) := h_60
                        have hI : XInv z_57 := by rw [ez_57]; exact XInv_xsS hd_17 hI (by rw [h_59]; exact XInv_S hd_17 hI)
                        have hkp : trX z_57 = tSt (trX u_48) d_17 (upd (tIt (trX u_48) d_17) i.toNatClampNeg (cI (nar3 (tK (trX u_48) d_17) (0 : Int32)))) := by rw [ez_57, trX_keep hd_17 h_58 h_59, h_60, cR_upd (show i.toNatClampNeg < 60 by have q9 := z_clamp (x := i) (by omega); omega)]; exact congrArg (fun g => (((trX u_48).1, (trX u_48).2.1, (trX u_48).2.2.set (5 + d_17) g) : TT)) (congr (congrArg (fun g => upd g i.toNatClampNeg) (trX_Ig hd_17).symm) (congrArg (fun k9 => cI (nar3 k9 (0 : Int32))) (trX_Sg hd_17).1.symm))
                        obtain ⟨x_62, ex_62⟩ : ∃ y : Int32, y = i + 1 := ⟨_, rfl⟩
                        have hx_62 : x_62.toInt = i.toInt + 1 := z_add ex_62 rfl (show (1 : Int32).toInt = 1 by decide) (by omega)
                        refine lv_iinc (v := x_62) (lv' := [(5, .int x_62), (4, .int x_45), (3, .ref (qS q d_17 0)), (0, .ref (q 0)), (1, .int d), (2, .int z0)]) hx hb dX6_write_94 hl (k := 0) rfl (by rw [ex_62]; rfl) (by decide) rfl (fun ls hl => ?_)
                        refine lv_goto (tgt := 66) hx hb dX6_write_97 (by decide) ?_
                        exact ih66 ((24 - x_62.toInt).toNat) (by omega) x_62 z_57 ⟨(show 0 ≤ x_62.toInt ∧ x_62.toInt ≤ 24 by omega), (show x_62.toInt ≤ x_45.toInt by omega), hI, (wr_go (m := d_17) hd_17 ed_17 hkp hWr hi.1 hx_62 (cI_nar (by decide)))⟩ rfl H locs ls hP hS (lv_sub hl [0, 1, 2, 3, 4, 5] rfl)
                      · skip
                        have hc_53 := zb_ne rfl (show (0 : Int32).toInt = 0 by decide) c_53
                        refine lv_iconst (v := 1) hx hb dX6_write_86 (by decide) ?_
                        refine lv_goto (tgt := 91) hx hb dX6_write_87 (by decide) ?_
                        refine zcS_v (w := (zX k q u_48)) (wc := (zS k (qS q d_17) (xS u_48 d_17))) (va_runV (As := [.int i, .int 1]) (rest := []) ⟨hx, hb, hml, hown, htb⟩ (c_X5_keep l dC dI k (qS q d_17) (xS u_48 d_17) i 1 _ (by omega)) (cwV 2 htb (gzV wmt3_116 wmt3_117 wmt3_118 wmt1_7 wmt3_119) rfl rfl rfl (by decide +kernel) ⟨Nat.le_of_ble_eq_true rfl, Nat.le_of_ble_eq_true rfl⟩) (zp_V (ci := 5) (q0 := (28 + 2 * d_17)) hK hP (hDa _) [28 + 2 * d_17, 29 + 2 * d_17] (zX_SC hd_17) (zX_ndS hd_17) rfl (zX_S0 hd_17)) rfl rfl hl.1 rfl (lv_room (Nat.le_of_ble_eq_true rfl)) dX6_write_91 ⟨Nat.le_of_ble_eq_true rfl, Nat.le_of_ble_eq_true rfl⟩) hP (hDa _) hS hA [28 + 2 * d_17, 29 + 2 * d_17] (zX_SC hd_17) (fun _ => rfl) (fun u_64 H locs w_65 hP _ hS => ?_)
                        obtain ⟨z_66, ez_66⟩ : ∃ x : ZS, x = (xsS u_48 d_17 u_64) := ⟨_, rfl⟩
                        have hP : va_P (dC, dI) vwCl (zX k q z_66) H := by rw [ez_66]; exact (zX_Sset hd_17) ▸ hP
                        obtain ⟨h_67, h_68, h_69⟩ := w_65
                        replace h_67 : u_64.1 0 = (xS u_48 d_17).1 0 := h_67
                        replace h_68 : u_64.1 1 = (xS u_48 d_17).1 1 := h_68
                        replace h_69 : u_64.2.2.1 0 = upd ((xS u_48 d_17).2.2.1 0) i.toNatClampNeg (nar3 ((xS u_48 d_17).1 0) (1 : Int32)) := h_69
                        have hI : XInv z_66 := by rw [ez_66]; exact XInv_xsS hd_17 hI (by rw [h_68]; exact XInv_S hd_17 hI)
                        have hkp : trX z_66 = tSt (trX u_48) d_17 (upd (tIt (trX u_48) d_17) i.toNatClampNeg (cI (nar3 (tK (trX u_48) d_17) (1 : Int32)))) := by rw [ez_66, trX_keep hd_17 h_67 h_68, h_69, cR_upd (show i.toNatClampNeg < 60 by have q9 := z_clamp (x := i) (by omega); omega)]; exact congrArg (fun g => (((trX u_48).1, (trX u_48).2.1, (trX u_48).2.2.set (5 + d_17) g) : TT)) (congr (congrArg (fun g => upd g i.toNatClampNeg) (trX_Ig hd_17).symm) (congrArg (fun k9 => cI (nar3 k9 (1 : Int32))) (trX_Sg hd_17).1.symm))
                        obtain ⟨x_71, ex_71⟩ : ∃ y : Int32, y = i + 1 := ⟨_, rfl⟩
                        have hx_71 : x_71.toInt = i.toInt + 1 := z_add ex_71 rfl (show (1 : Int32).toInt = 1 by decide) (by omega)
                        refine lv_iinc (v := x_71) (lv' := [(5, .int x_71), (4, .int x_45), (3, .ref (qS q d_17 0)), (0, .ref (q 0)), (1, .int d), (2, .int z0)]) hx hb dX6_write_94 hl (k := 0) rfl (by rw [ex_71]; rfl) (by decide) rfl (fun ls hl => ?_)
                        refine lv_goto (tgt := 66) hx hb dX6_write_97 (by decide) ?_
                        exact ih66 ((24 - x_71.toInt).toNat) (by omega) x_71 z_66 ⟨(show 0 ≤ x_71.toInt ∧ x_71.toInt ≤ 24 by omega), (show x_71.toInt ≤ x_45.toInt by omega), hI, (wr_go (m := d_17) hd_17 ed_17 hkp hWr hi.1 hx_71 (cI_nar (by decide)))⟩ rfl H locs ls hP hS (lv_sub hl [0, 1, 2, 3, 4, 5] rfl)
                · skip
                  exact absurd (by decide) c_43
            · skip
              exact absurd (by decide) c_33
        · skip
          exact absurd c_16 (by decide)
      · skip
        replace e_15 : r_9 = 0 := e_15
        subst e_15
        replace h_14 : ¬ (0 ≤ z0.toInt ∧ z0.toInt < 4) := h_14
        refine lv_if_ne (tgt := 17) hx hb dX6_write_11 (by decide) (fun c_72 => ?_) (fun c_72 => ?_)
        · skip
          exact absurd c_72 (by decide)
        · skip
          refine lv_bipush (v := (-2)) hx hb dX6_write_14 (by decide) ?_
          exact W.iret (v := (-2)) hx hb hr (fun t ht hW => ⟨⟨(-2), z, rfl, ⟨hI, tWrite2_no (tWrite_bad (by omega)) (by decide) hT⟩, ⟨by rw [ht]; exact hP, hDa _⟩⟩, hS.F ht⟩) hS.2.2 dX6_write_16
  · skip
    replace e_7 : r_1 = 0 := e_7
    subst e_7
    replace h_6 : ¬ (0 ≤ d.toInt ∧ d.toInt < 4) := h_6
    refine lv_if_eq (tgt := 14) hx hb dX6_write_4 (by decide) (fun c_73 => ?_) (fun c_73 => ?_)
    · skip
      refine lv_bipush (v := (-2)) hx hb dX6_write_14 (by decide) ?_
      exact W.iret (v := (-2)) hx hb hr (fun t ht hW => ⟨⟨(-2), z, rfl, ⟨hI, tWrite2_no (tWrite_bad (by omega)) (by decide) hT⟩, ⟨by rw [ht]; exact hP, hDa _⟩⟩, hS.F ht⟩) hS.2.2 dX6_write_16
    · skip
      exact absurd (by decide) c_73
set_option maxHeartbeats 4000000 in
set_option maxRecDepth 100000 in
theorem c_X6_digest (l : Launch) (dC : Nat → ClassId) (dI : Nat → Nat → Nat) (k : Nat → ClassId) (q : Nat → Nat) (z : ZS) (sz : Nat) (hI : XInv z) : Met l yX6_digest (wz yX6_digest cX6_digest 5 (some .long)) ({ frames := 6, cells := 0, slots := 0, locals := 138 }) (va_Pc [.ref (q 0)] (zPre dC dI k (zTX k) (zX k q z) sz)) (va_Ql (fun (r : Int64) (u : ZS) => (XInv u) ∧ (trX u = trX z)) (fun u t => zPost dC dI (va_A (zX k q z) sz) (zX k q u) t) (va_A (zX k q z) sz)) 0 0 (va_A (zX k q z) sz) := by
  refine Met.ofW (cc := cX6_digest) (maxL := 5) (ret := (some .long)) (by decide) rfl ?_
  intro p e s m args below meth c s₁ B hml hv
  obtain ⟨rfl, hsz, hP, hK, hD0⟩ := hv
  have hx := B.exec
  have hb := B.bytes
  have hr := B.returns
  have hts := atoms_spec (ws := wz yX6_digest cX6_digest 5 (some .long)) B.pre
  have htb : ∀ w ∈ zw, w.before _ s = true := fun w h => hts w (List.mem_cons_of_mem _ h)
  have hown : s.vm.findClass RX6 = some m.cls := findClass_of_methodNamed B.named
  have hlocks := B.notSynchronized
  clear hts
  subst hsz
  have hD := hD0.self (sz := s.heap.size)
  generalize hAe : va_A (zX k q z) s.heap.size = A at hD ⊢
  have hA : ∀ q : Nat, s.heap.size ≤ q → A q := fun q h => by rw [← hAe]; exact Or.inr h
  have hDa : ∀ z9 : ZS, va_D A (zX k q z9) := fun z9 => va_D_adr (w := zX k q z) rfl hD
  have hl := lv_entry ([.ref (q 0)]) (n := 5) (Nat.le_of_ble_eq_true rfl)
  rw [lg_entry_eq]
  generalize (lg_sl ([.ref (q 0)]) ++ List.replicate (5 - (lg_sl ([.ref (q 0)])).length) Slot.unset).toArray = ls at hl ⊢
  have hl : lv_has ls 5 [(0, .ref (q 0))] := hl
  refine z_start2 (A := A) (w := (zX k q z)) hP (fun H locs hP hS => ?_)
  clear hD0 hAe
  have hT : trX z = trX z := rfl
  refine lv_ldc2 (v := 17) hx hb hown (htb _ wmt3_152) dX6_digest_0 ?_
  refine lv_lstore_n (lv' := [(1, .long 17), (0, .ref (q 0))]) hx hb dX6_digest_3 rfl hl (by decide) rfl (fun ls hl => ?_)
  refine lv_iconst (v := 0) hx hb dX6_digest_4 (by decide) ?_
  refine lv_istore_n (lv' := [(3, .int 0), (1, .long 17), (0, .ref (q 0))]) hx hb dX6_digest_5 rfl hl (by decide) rfl (fun ls hl => ?_)
  obtain ⟨ha, eha⟩ : ∃ x : Int64, 17 = x := ⟨_, rfl⟩
  obtain ⟨ia, eia⟩ : ∃ x : Int32, 0 = x := ⟨_, rfl⟩
  obtain ⟨z1ia, ez1ia⟩ : ∃ x : ZS, z = x := ⟨_, rfl⟩
  have hv6 : (0 ≤ ia.toInt ∧ ia.toInt ≤ 8) ∧ (XInv z1ia) ∧ (trX z1ia = trX z) := by subst eha eia ez1ia; exact ⟨(by decide), hI, hT⟩
  replace hl : lv_has ls 5 [(3, .int ia), (1, .long ha), (0, .ref (q 0))] := by subst eha eia ez1ia; exact hl
  replace hP : va_P (dC, dI) vwCl (zX k q z1ia) H := by subst ez1ia; exact hP
  clear eha eia ez1ia
  obtain ⟨mm6, hm6⟩ : ∃ mm : Nat, mm = (8 - ia.toInt).toNat := ⟨_, rfl⟩
  refine z_cut2 hP hS hl ?_
  clear hl hP
  intro H locs ls hP hS hl
  induction mm6 using Nat.strongRecOn generalizing ha ia z1ia H locs ls with
  | _ mm6 ih6 =>
    obtain ⟨hiia, hI1ia, hT1ia⟩ := hv6
    have hI := hI1ia
    have hT := hT1ia
    refine lv_iload_n hx hb dX6_digest_6 rfl (lv_at hl 0 rfl) ?_
    refine lv_bipush (v := 7) hx hb dX6_digest_7 (by decide) ?_
    refine lv_icmp_gt (tgt := 31) hx hb dX6_digest_9 (by decide) (fun c_1 => ?_) (fun c_1 => ?_)
    · skip
      have hc_1 := zb_lt (show (7 : Int32).toInt = 7 by decide) rfl c_1
      refine lv_iconst (v := 0) hx hb dX6_digest_31 (by decide) ?_
      refine lv_istore_n (lv' := [(3, .int 0), (1, .long ha), (0, .ref (q 0))]) hx hb dX6_digest_32 rfl hl (by decide) rfl (fun ls hl => ?_)
      obtain ⟨hb_, ehb_⟩ : ∃ x : Int64, ha = x := ⟨_, rfl⟩
      obtain ⟨ib, eib⟩ : ∃ x : Int32, 0 = x := ⟨_, rfl⟩
      obtain ⟨z1ib, ez1ib⟩ : ∃ x : ZS, z1ia = x := ⟨_, rfl⟩
      have hv33 : (0 ≤ ib.toInt ∧ ib.toInt ≤ 4) ∧ (XInv z1ib) ∧ (trX z1ib = trX z) := by subst ehb_ eib ez1ib; exact ⟨(by decide), hI, hT⟩
      replace hl : lv_has ls 5 [(3, .int ib), (1, .long hb_), (0, .ref (q 0))] := by subst ehb_ eib ez1ib; exact hl
      replace hP : va_P (dC, dI) vwCl (zX k q z1ib) H := by subst ez1ib; exact hP
      clear ehb_ eib ez1ib
      obtain ⟨mm33, hm33⟩ : ∃ mm : Nat, mm = (4 - ib.toInt).toNat := ⟨_, rfl⟩
      refine z_cut2 hP hS hl ?_
      clear hl hP
      intro H locs ls hP hS hl
      induction mm33 using Nat.strongRecOn generalizing hb_ ib z1ib H locs ls with
      | _ mm33 ih33 =>
        obtain ⟨hiib, hI1ib, hT1ib⟩ := hv33
        have hI := hI1ib
        have hT := hT1ib
        refine lv_iload_n hx hb dX6_digest_33 rfl (lv_at hl 0 rfl) ?_
        refine lv_iconst (v := 4) hx hb dX6_digest_34 (by decide) ?_
        refine lv_icmp_ge (tgt := 114) hx hb dX6_digest_35 (by decide) (fun c_2 => ?_) (fun c_2 => ?_)
        · skip
          have hc_2 := zb_le (show (4 : Int32).toInt = 4 by decide) rfl c_2
          refine lv_iconst (v := 0) hx hb dX6_digest_114 (by decide) ?_
          refine lv_istore_n (lv' := [(3, .int 0), (1, .long hb_), (0, .ref (q 0))]) hx hb dX6_digest_115 rfl hl (by decide) rfl (fun ls hl => ?_)
          obtain ⟨hd, ehd⟩ : ∃ x : Int64, hb_ = x := ⟨_, rfl⟩
          obtain ⟨id, eid⟩ : ∃ x : Int32, 0 = x := ⟨_, rfl⟩
          obtain ⟨z1id, ez1id⟩ : ∃ x : ZS, z1ib = x := ⟨_, rfl⟩
          have hv116 : (0 ≤ id.toInt ∧ id.toInt ≤ 4) ∧ (XInv z1id) ∧ (trX z1id = trX z) := by subst ehd eid ez1id; exact ⟨(by decide), hI, hT⟩
          replace hl : lv_has ls 5 [(3, .int id), (1, .long hd), (0, .ref (q 0))] := by subst ehd eid ez1id; exact hl
          replace hP : va_P (dC, dI) vwCl (zX k q z1id) H := by subst ez1id; exact hP
          clear ehd eid ez1id
          obtain ⟨mm116, hm116⟩ : ∃ mm : Nat, mm = (4 - id.toInt).toNat := ⟨_, rfl⟩
          refine z_cut2 hP hS hl ?_
          clear hl hP
          intro H locs ls hP hS hl
          induction mm116 using Nat.strongRecOn generalizing hd id z1id H locs ls with
          | _ mm116 ih116 =>
            obtain ⟨hiid, hI1id, hT1id⟩ := hv116
            have hI := hI1id
            have hT := hT1id
            refine lv_iload_n hx hb dX6_digest_116 rfl (lv_at hl 0 rfl) ?_
            refine lv_iconst (v := 4) hx hb dX6_digest_117 (by decide) ?_
            refine lv_icmp_ge (tgt := 189) hx hb dX6_digest_118 (by decide) (fun c_3 => ?_) (fun c_3 => ?_)
            · skip
              have hc_3 := zb_le (show (4 : Int32).toInt = 4 by decide) rfl c_3
              refine lv_iconst (v := 0) hx hb dX6_digest_189 (by decide) ?_
              refine lv_istore_n (lv' := [(3, .int 0), (1, .long hd), (0, .ref (q 0))]) hx hb dX6_digest_190 rfl hl (by decide) rfl (fun ls hl => ?_)
              obtain ⟨hf, ehf⟩ : ∃ x : Int64, hd = x := ⟨_, rfl⟩
              obtain ⟨if_, eif_⟩ : ∃ x : Int32, 0 = x := ⟨_, rfl⟩
              obtain ⟨z1if_, ez1if_⟩ : ∃ x : ZS, z1id = x := ⟨_, rfl⟩
              have hv191 : (0 ≤ if_.toInt ∧ if_.toInt ≤ 24) ∧ (XInv z1if_) ∧ (trX z1if_ = trX z) := by subst ehf eif_ ez1if_; exact ⟨(by decide), hI, hT⟩
              replace hl : lv_has ls 5 [(3, .int if_), (1, .long hf), (0, .ref (q 0))] := by subst ehf eif_ ez1if_; exact hl
              replace hP : va_P (dC, dI) vwCl (zX k q z1if_) H := by subst ez1if_; exact hP
              clear ehf eif_ ez1if_
              obtain ⟨mm191, hm191⟩ : ∃ mm : Nat, mm = (24 - if_.toInt).toNat := ⟨_, rfl⟩
              refine z_cut2 hP hS hl ?_
              clear hl hP
              intro H locs ls hP hS hl
              induction mm191 using Nat.strongRecOn generalizing hf if_ z1if_ H locs ls with
              | _ mm191 ih191 =>
                obtain ⟨hiif_, hI1if_, hT1if_⟩ := hv191
                have hI := hI1if_
                have hT := hT1if_
                refine lv_iload_n hx hb dX6_digest_191 rfl (lv_at hl 0 rfl) ?_
                refine lv_bipush (v := 24) hx hb dX6_digest_192 (by decide) ?_
                refine lv_icmp_ge (tgt := 216) hx hb dX6_digest_194 (by decide) (fun c_4 => ?_) (fun c_4 => ?_)
                · skip
                  have hc_4 := zb_le (show (24 : Int32).toInt = 24 by decide) rfl c_4
                  refine lv_lload_n hx hb dX6_digest_216 rfl (lv_at hl 1 rfl) ?_
                  exact W.lret (v := hf) hx hb hr (fun t ht hW => ⟨⟨hf, z1if_, rfl, ⟨hI, hT⟩, ⟨by rw [ht]; exact hP, hDa _⟩⟩, hS.F ht⟩) hS.2.2 dX6_digest_217
                · skip
                  have hc_4 := zb_nle (show (24 : Int32).toInt = 24 by decide) rfl c_4
                  refine lv_ldc2 (v := 31) hx hb hown (htb _ wmt3_153) dX6_digest_197 ?_
                  refine lv_lload_n hx hb dX6_digest_200 rfl (lv_at hl 1 rfl) ?_
                  refine lv_lmul hx hb dX6_digest_201 ?_
                  refine lv_topl (fun x_5 ex_5 => ?_)
                  refine lv_aload_n hx hb dX6_digest_202 rfl (lv_at hl 2 rfl) ?_
                  refine lv_iload_n hx hb dX6_digest_203 rfl (lv_at hl 0 rfl) ?_
                  refine lv_iconst (v := 0) hx hb dX6_digest_204 (by decide) ?_
                  refine zcA_l (w := (zX k q z1if_)) (va_runV (As := [.int if_, .int 0]) (rest := [.long x_5]) ⟨hx, hb, hml, hown, htb⟩ (c_X6_given l dC dI k q z1if_ if_ 0 _ hI) (cwV 2 htb (gzV wmt3_160 wmt2_234 wmt2_235 wmt1_1 wmt2_236) rfl rfl rfl (by decide +kernel) ⟨Nat.le_of_ble_eq_true rfl, Nat.le_of_ble_eq_true rfl⟩) (zpA_V (ci := 6) (q0 := 0) hK hP (hDa _) rfl rfl) rfl rfl hl.1 rfl (lv_room (Nat.le_of_ble_eq_true rfl)) dX6_digest_205 ⟨Nat.le_of_ble_eq_true rfl, Nat.le_of_ble_eq_true rfl⟩) (hDa _) hS hA (fun r_6 u_7 H locs w_8 hP _ hS => ?_)
                  obtain ⟨h_9, h_10⟩ := w_8
                  replace h_9 : XInv u_7 := h_9
                  replace h_10 : trX u_7 = trX z1if_ := h_10
                  have hI := h_9
                  have hT := h_10.trans hT
                  refine lv_ladd hx hb dX6_digest_208 ?_
                  refine lv_topl (fun x_12 ex_12 => ?_)
                  refine lv_lstore_n (lv' := [(1, .long x_12), (3, .int if_), (0, .ref (q 0))]) hx hb dX6_digest_209 rfl hl (by decide) rfl (fun ls hl => ?_)
                  obtain ⟨x_13, ex_13⟩ : ∃ y : Int32, y = if_ + 1 := ⟨_, rfl⟩
                  have hx_13 : x_13.toInt = if_.toInt + 1 := z_add ex_13 rfl (show (1 : Int32).toInt = 1 by decide) (by omega)
                  refine lv_iinc (v := x_13) (lv' := [(3, .int x_13), (1, .long x_12), (0, .ref (q 0))]) hx hb dX6_digest_210 hl (k := 1) rfl (by rw [ex_13]; rfl) (by decide) rfl (fun ls hl => ?_)
                  refine lv_goto (tgt := 191) hx hb dX6_digest_213 (by decide) ?_
                  exact ih191 ((24 - x_13.toInt).toNat) (by omega) x_12 x_13 u_7 ⟨(show 0 ≤ x_13.toInt ∧ x_13.toInt ≤ 24 by omega), hI, hT⟩ rfl H locs ls hP hS (lv_sub hl [0, 1, 2] rfl)
            · skip
              have hc_3 := zb_nle (show (4 : Int32).toInt = 4 by decide) rfl c_3
              refine lv_iconst (v := 0) hx hb dX6_digest_121 (by decide) ?_
              refine lv_istore (lv' := [(4, .int 0), (3, .int id), (1, .long hd), (0, .ref (q 0))]) hx hb dX6_digest_122 hl (by decide) rfl (fun ls hl => ?_)
              obtain ⟨he, ehe⟩ : ∃ x : Int64, hd = x := ⟨_, rfl⟩
              obtain ⟨ie, eie⟩ : ∃ x : Int32, 0 = x := ⟨_, rfl⟩
              obtain ⟨z1ie, ez1ie⟩ : ∃ x : ZS, z1id = x := ⟨_, rfl⟩
              have hv124 : (0 ≤ ie.toInt ∧ ie.toInt ≤ 4) ∧ (XInv z1ie) ∧ (trX z1ie = trX z) := by subst ehe eie ez1ie; exact ⟨(by decide), hI, hT⟩
              replace hl : lv_has ls 5 [(4, .int ie), (3, .int id), (1, .long he), (0, .ref (q 0))] := by subst ehe eie ez1ie; exact hl
              replace hP : va_P (dC, dI) vwCl (zX k q z1ie) H := by subst ez1ie; exact hP
              clear ehe eie ez1ie
              obtain ⟨mm124, hm124⟩ : ∃ mm : Nat, mm = (4 - ie.toInt).toNat := ⟨_, rfl⟩
              refine z_cut2 hP hS hl ?_
              clear hl hP
              intro H locs ls hP hS hl
              induction mm124 using Nat.strongRecOn generalizing he ie z1ie H locs ls with
              | _ mm124 ih124 =>
                obtain ⟨hiie, hI1ie, hT1ie⟩ := hv124
                have hI := hI1ie
                have hT := hT1ie
                refine lv_iload hx hb dX6_digest_124 (lv_at hl 0 rfl) ?_
                refine lv_iconst (v := 4) hx hb dX6_digest_126 (by decide) ?_
                refine lv_icmp_ge (tgt := 183) hx hb dX6_digest_127 (by decide) (fun c_14 => ?_) (fun c_14 => ?_)
                · skip
                  have hc_14 := zb_le (show (4 : Int32).toInt = 4 by decide) rfl c_14
                  obtain ⟨x_15, ex_15⟩ : ∃ y : Int32, y = id + 1 := ⟨_, rfl⟩
                  have hx_15 : x_15.toInt = id.toInt + 1 := z_add ex_15 rfl (show (1 : Int32).toInt = 1 by decide) (by omega)
                  refine lv_iinc (v := x_15) (lv' := [(3, .int x_15), (4, .int ie), (1, .long he), (0, .ref (q 0))]) hx hb dX6_digest_183 hl (k := 1) rfl (by rw [ex_15]; rfl) (by decide) rfl (fun ls hl => ?_)
                  refine lv_goto (tgt := 116) hx hb dX6_digest_186 (by decide) ?_
                  exact ih116 ((4 - x_15.toInt).toNat) (by omega) he x_15 z1ie ⟨(show 0 ≤ x_15.toInt ∧ x_15.toInt ≤ 4 by omega), hI, hT⟩ rfl H locs ls hP hS (lv_sub hl [0, 2, 3] rfl)
                · skip
                  have hc_14 := zb_nle (show (4 : Int32).toInt = 4 by decide) rfl c_14
                  refine lv_ldc2 (v := 31) hx hb hown (htb _ wmt3_153) dX6_digest_130 ?_
                  refine lv_lload_n hx hb dX6_digest_133 rfl (lv_at hl 2 rfl) ?_
                  refine lv_lmul hx hb dX6_digest_134 ?_
                  refine lv_topl (fun x_16 ex_16 => ?_)
                  refine lv_aload_n hx hb dX6_digest_135 rfl (lv_at hl 3 rfl) ?_
                  refine lv_iload_n hx hb dX6_digest_136 rfl (lv_at hl 1 rfl) ?_
                  refine lv_iload hx hb dX6_digest_137 (lv_at hl 0 rfl) ?_
                  refine lv_iconst (v := 0) hx hb dX6_digest_139 (by decide) ?_
                  refine zcA_i (w := (zX k q z1ie)) (va_runV (As := [.int id, .int ie, .int 0]) (rest := [.long x_16]) ⟨hx, hb, hml, hown, htb⟩ (c_X6_poll l dC dI k q z1ie id ie 0 _ hI) (cwV 3 htb (gzV wmt3_158 wmt2_131 wmt2_132 wmt1_1 wmt2_133) rfl rfl rfl (by decide +kernel) ⟨Nat.le_of_ble_eq_true rfl, Nat.le_of_ble_eq_true rfl⟩) (zpA_V (ci := 6) (q0 := 0) hK hP (hDa _) rfl rfl) rfl rfl hl.1 rfl (lv_room (Nat.le_of_ble_eq_true rfl)) dX6_digest_140 ⟨Nat.le_of_ble_eq_true rfl, Nat.le_of_ble_eq_true rfl⟩) (hDa _) hS hA (fun r_17 u_18 H locs w_19 hP _ hS => ?_)
                  obtain ⟨h_20, h_21⟩ := w_19
                  replace h_20 : XInv u_18 := h_20
                  replace h_21 : trX u_18 = trX z1ie := h_21
                  have hI := h_20
                  have hT := h_21.trans hT
                  refine lv_i2l (v := r_17.toInt64) hx hb dX6_digest_143 rfl ?_
                  refine lv_topl (fun x_23 ex_23 => ?_)
                  have hx_23 : x_23.toInt = r_17.toInt := by rw [ex_23]; exact Jvm.Kit.i64_of_i32 _
                  refine lv_ladd hx hb dX6_digest_144 ?_
                  refine lv_topl (fun x_24 ex_24 => ?_)
                  refine lv_lstore_n (lv' := [(1, .long x_24), (4, .int ie), (3, .int id), (0, .ref (q 0))]) hx hb dX6_digest_145 rfl hl (by decide) rfl (fun ls hl => ?_)
                  refine lv_ldc2 (v := 31) hx hb hown (htb _ wmt3_153) dX6_digest_146 ?_
                  refine lv_lload_n hx hb dX6_digest_149 rfl (lv_at hl 0 rfl) ?_
                  refine lv_lmul hx hb dX6_digest_150 ?_
                  refine lv_topl (fun x_25 ex_25 => ?_)
                  refine lv_aload_n hx hb dX6_digest_151 rfl (lv_at hl 3 rfl) ?_
                  refine lv_iload_n hx hb dX6_digest_152 rfl (lv_at hl 2 rfl) ?_
                  refine lv_iload hx hb dX6_digest_153 (lv_at hl 1 rfl) ?_
                  refine lv_iconst (v := 1) hx hb dX6_digest_155 (by decide) ?_
                  refine zcA_i (w := (zX k q u_18)) (va_runV (As := [.int id, .int ie, .int 1]) (rest := [.long x_25]) ⟨hx, hb, hml, hown, htb⟩ (c_X6_poll l dC dI k q u_18 id ie 1 _ hI) (cwV 3 htb (gzV wmt3_158 wmt2_131 wmt2_132 wmt1_1 wmt2_133) rfl rfl rfl (by decide +kernel) ⟨Nat.le_of_ble_eq_true rfl, Nat.le_of_ble_eq_true rfl⟩) (zpA_V (ci := 6) (q0 := 0) hK hP (hDa _) rfl rfl) rfl rfl hl.1 rfl (lv_room (Nat.le_of_ble_eq_true rfl)) dX6_digest_156 ⟨Nat.le_of_ble_eq_true rfl, Nat.le_of_ble_eq_true rfl⟩) (hDa _) hS hA (fun r_26 u_27 H locs w_28 hP _ hS => ?_)
                  obtain ⟨h_29, h_30⟩ := w_28
                  replace h_29 : XInv u_27 := h_29
                  replace h_30 : trX u_27 = trX u_18 := h_30
                  have hI := h_29
                  have hT := h_30.trans hT
                  refine lv_i2l (v := r_26.toInt64) hx hb dX6_digest_159 rfl ?_
                  refine lv_topl (fun x_32 ex_32 => ?_)
                  have hx_32 : x_32.toInt = r_26.toInt := by rw [ex_32]; exact Jvm.Kit.i64_of_i32 _
                  refine lv_ladd hx hb dX6_digest_160 ?_
                  refine lv_topl (fun x_33 ex_33 => ?_)
                  refine lv_lstore_n (lv' := [(1, .long x_33), (4, .int ie), (3, .int id), (0, .ref (q 0))]) hx hb dX6_digest_161 rfl hl (by decide) rfl (fun ls hl => ?_)
                  refine lv_ldc2 (v := 31) hx hb hown (htb _ wmt3_153) dX6_digest_162 ?_
                  refine lv_lload_n hx hb dX6_digest_165 rfl (lv_at hl 0 rfl) ?_
                  refine lv_lmul hx hb dX6_digest_166 ?_
                  refine lv_topl (fun x_34 ex_34 => ?_)
                  refine lv_aload_n hx hb dX6_digest_167 rfl (lv_at hl 3 rfl) ?_
                  refine lv_iload_n hx hb dX6_digest_168 rfl (lv_at hl 2 rfl) ?_
                  refine lv_iload hx hb dX6_digest_169 (lv_at hl 1 rfl) ?_
                  refine zcA_i (w := (zX k q u_27)) (va_runV (As := [.int id, .int ie]) (rest := [.long x_34]) ⟨hx, hb, hml, hown, htb⟩ (c_X6_likely l dC dI k q u_27 id ie _ hI) (cwV 2 htb (gzV wmt3_159 wmt2_207 wmt2_208 wmt1_1 wmt2_209) rfl rfl rfl (by decide +kernel) ⟨Nat.le_of_ble_eq_true rfl, Nat.le_of_ble_eq_true rfl⟩) (zpA_V (ci := 6) (q0 := 0) hK hP (hDa _) rfl rfl) rfl rfl hl.1 rfl (lv_room (Nat.le_of_ble_eq_true rfl)) dX6_digest_171 ⟨Nat.le_of_ble_eq_true rfl, Nat.le_of_ble_eq_true rfl⟩) (hDa _) hS hA (fun r_35 u_36 H locs w_37 hP _ hS => ?_)
                  obtain ⟨h_38, h_39⟩ := w_37
                  replace h_38 : XInv u_36 := h_38
                  replace h_39 : trX u_36 = trX u_27 := h_39
                  have hI := h_38
                  have hT := h_39.trans hT
                  refine lv_i2l (v := r_35.toInt64) hx hb dX6_digest_174 rfl ?_
                  refine lv_topl (fun x_41 ex_41 => ?_)
                  have hx_41 : x_41.toInt = r_35.toInt := by rw [ex_41]; exact Jvm.Kit.i64_of_i32 _
                  refine lv_ladd hx hb dX6_digest_175 ?_
                  refine lv_topl (fun x_42 ex_42 => ?_)
                  refine lv_lstore_n (lv' := [(1, .long x_42), (4, .int ie), (3, .int id), (0, .ref (q 0))]) hx hb dX6_digest_176 rfl hl (by decide) rfl (fun ls hl => ?_)
                  obtain ⟨x_43, ex_43⟩ : ∃ y : Int32, y = ie + 1 := ⟨_, rfl⟩
                  have hx_43 : x_43.toInt = ie.toInt + 1 := z_add ex_43 rfl (show (1 : Int32).toInt = 1 by decide) (by omega)
                  refine lv_iinc (v := x_43) (lv' := [(4, .int x_43), (1, .long x_42), (3, .int id), (0, .ref (q 0))]) hx hb dX6_digest_177 hl (k := 1) rfl (by rw [ex_43]; rfl) (by decide) rfl (fun ls hl => ?_)
                  refine lv_goto (tgt := 124) hx hb dX6_digest_180 (by decide) ?_
                  exact ih124 ((4 - x_43.toInt).toNat) (by omega) x_42 x_43 u_36 ⟨(show 0 ≤ x_43.toInt ∧ x_43.toInt ≤ 4 by omega), hI, hT⟩ rfl H locs ls hP hS (lv_sub hl [0, 2, 1, 3] rfl)
        · skip
          have hc_2 := zb_nle (show (4 : Int32).toInt = 4 by decide) rfl c_2
          refine lv_ldc2 (v := 31) hx hb hown (htb _ wmt3_153) dX6_digest_38 ?_
          refine lv_lload_n hx hb dX6_digest_41 rfl (lv_at hl 1 rfl) ?_
          refine lv_lmul hx hb dX6_digest_42 ?_
          refine lv_topl (fun x_44 ex_44 => ?_)
          refine lv_aload_n hx hb dX6_digest_43 rfl (lv_at hl 2 rfl) ?_
          refine lv_iload_n hx hb dX6_digest_44 rfl (lv_at hl 0 rfl) ?_
          refine zcA_i (w := (zX k q z1ib)) (va_runV (As := [.int ib]) (rest := [.long x_44]) ⟨hx, hb, hml, hown, htb⟩ (c_X6_fault l dC dI k q z1ib ib _ hI) (cwV 1 htb (gzV wmt3_155 wmt2_37 wmt2_38 wmt1_1 wmt2_39) rfl rfl rfl (by decide +kernel) ⟨Nat.le_of_ble_eq_true rfl, Nat.le_of_ble_eq_true rfl⟩) (zpA_V (ci := 6) (q0 := 0) hK hP (hDa _) rfl rfl) rfl rfl hl.1 rfl (lv_room (Nat.le_of_ble_eq_true rfl)) dX6_digest_45 ⟨Nat.le_of_ble_eq_true rfl, Nat.le_of_ble_eq_true rfl⟩) (hDa _) hS hA (fun r_45 u_46 H locs w_47 hP _ hS => ?_)
          have h_48 := w_47
          replace h_48 : r_45 = tFault (trX z1ib) ib := h_48
          refine lv_i2l (v := r_45.toInt64) hx hb dX6_digest_48 rfl ?_
          refine lv_topl (fun x_50 ex_50 => ?_)
          have hx_50 : x_50.toInt = r_45.toInt := by rw [ex_50]; exact Jvm.Kit.i64_of_i32 _
          refine lv_ladd hx hb dX6_digest_49 ?_
          refine lv_topl (fun x_51 ex_51 => ?_)
          refine lv_lstore_n (lv' := [(1, .long x_51), (3, .int ib), (0, .ref (q 0))]) hx hb dX6_digest_50 rfl hl (by decide) rfl (fun ls hl => ?_)
          refine lv_iconst (v := 1) hx hb dX6_digest_51 (by decide) ?_
          refine lv_istore (lv' := [(4, .int 1), (1, .long x_51), (3, .int ib), (0, .ref (q 0))]) hx hb dX6_digest_52 hl (by decide) rfl (fun ls hl => ?_)
          obtain ⟨hc, ehc⟩ : ∃ x : Int64, x_51 = x := ⟨_, rfl⟩
          obtain ⟨ic, eic⟩ : ∃ x : Int32, 1 = x := ⟨_, rfl⟩
          obtain ⟨z1ic, ez1ic⟩ : ∃ x : ZS, z1ib = x := ⟨_, rfl⟩
          have hv54 : (-1 ≤ ic.toInt ∧ ic.toInt ≤ 1) ∧ (XInv z1ic) ∧ (trX z1ic = trX z) := by subst ehc eic ez1ic; exact ⟨(by decide), hI, hT⟩
          replace hl : lv_has ls 5 [(4, .int ic), (1, .long hc), (3, .int ib), (0, .ref (q 0))] := by subst ehc eic ez1ic; exact hl
          replace hP : va_P (dC, dI) vwCl (zX k q z1ic) H := by subst ez1ic; exact hP
          clear ehc eic ez1ic
          obtain ⟨mm54, hm54⟩ : ∃ mm : Nat, mm = (ic.toInt + 1).toNat := ⟨_, rfl⟩
          refine z_cut2 hP hS hl ?_
          clear hl hP
          intro H locs ls hP hS hl
          induction mm54 using Nat.strongRecOn generalizing hc ic z1ic H locs ls with
          | _ mm54 ih54 =>
            obtain ⟨hiic, hI1ic, hT1ic⟩ := hv54
            have hI := hI1ic
            have hT := hT1ic
            refine lv_iload hx hb dX6_digest_54 (lv_at hl 0 rfl) ?_
            refine lv_if_lt (tgt := 95) hx hb dX6_digest_56 (by decide) (fun c_52 => ?_) (fun c_52 => ?_)
            · skip
              have hc_52 := zb_lt rfl (show (0 : Int32).toInt = 0 by decide) c_52
              refine lv_ldc2 (v := 31) hx hb hown (htb _ wmt3_153) dX6_digest_95 ?_
              refine lv_lload_n hx hb dX6_digest_98 rfl (lv_at hl 1 rfl) ?_
              refine lv_lmul hx hb dX6_digest_99 ?_
              refine lv_topl (fun x_53 ex_53 => ?_)
              refine lv_aload_n hx hb dX6_digest_100 rfl (lv_at hl 3 rfl) ?_
              refine lv_iload_n hx hb dX6_digest_101 rfl (lv_at hl 2 rfl) ?_
              refine zcA_i (w := (zX k q z1ic)) (va_runV (As := [.int ib]) (rest := [.long x_53]) ⟨hx, hb, hml, hown, htb⟩ (c_X6_unit l dC dI k q z1ic ib _ hI) (cwV 1 htb (gzV wmt3_157 wmt2_66 wmt2_67 wmt1_1 wmt2_68) rfl rfl rfl (by decide +kernel) ⟨Nat.le_of_ble_eq_true rfl, Nat.le_of_ble_eq_true rfl⟩) (zpA_V (ci := 6) (q0 := 0) hK hP (hDa _) rfl rfl) rfl rfl hl.1 rfl (lv_room (Nat.le_of_ble_eq_true rfl)) dX6_digest_102 ⟨Nat.le_of_ble_eq_true rfl, Nat.le_of_ble_eq_true rfl⟩) (hDa _) hS hA (fun r_54 u_55 H locs w_56 hP _ hS => ?_)
              have h_57 := w_56
              replace h_57 : r_54.toInt = tUnit (trX z1ic) ib := h_57
              refine lv_i2l (v := r_54.toInt64) hx hb dX6_digest_105 rfl ?_
              refine lv_topl (fun x_59 ex_59 => ?_)
              have hx_59 : x_59.toInt = r_54.toInt := by rw [ex_59]; exact Jvm.Kit.i64_of_i32 _
              refine lv_ladd hx hb dX6_digest_106 ?_
              refine lv_topl (fun x_60 ex_60 => ?_)
              refine lv_lstore_n (lv' := [(1, .long x_60), (4, .int ic), (3, .int ib), (0, .ref (q 0))]) hx hb dX6_digest_107 rfl hl (by decide) rfl (fun ls hl => ?_)
              obtain ⟨x_61, ex_61⟩ : ∃ y : Int32, y = ib + 1 := ⟨_, rfl⟩
              have hx_61 : x_61.toInt = ib.toInt + 1 := z_add ex_61 rfl (show (1 : Int32).toInt = 1 by decide) (by omega)
              refine lv_iinc (v := x_61) (lv' := [(3, .int x_61), (1, .long x_60), (4, .int ic), (0, .ref (q 0))]) hx hb dX6_digest_108 hl (k := 2) rfl (by rw [ex_61]; rfl) (by decide) rfl (fun ls hl => ?_)
              refine lv_goto (tgt := 33) hx hb dX6_digest_111 (by decide) ?_
              exact ih33 ((4 - x_61.toInt).toNat) (by omega) x_60 x_61 z1ic ⟨(show 0 ≤ x_61.toInt ∧ x_61.toInt ≤ 4 by omega), hI, hT⟩ rfl H locs ls hP hS (lv_sub hl [0, 1, 3] rfl)
            · skip
              have hc_52 := zb_nlt rfl (show (0 : Int32).toInt = 0 by decide) c_52
              refine lv_ldc2 (v := 31) hx hb hown (htb _ wmt3_153) dX6_digest_59 ?_
              refine lv_lload_n hx hb dX6_digest_62 rfl (lv_at hl 1 rfl) ?_
              refine lv_lmul hx hb dX6_digest_63 ?_
              refine lv_topl (fun x_62 ex_62 => ?_)
              refine lv_aload_n hx hb dX6_digest_64 rfl (lv_at hl 3 rfl) ?_
              refine lv_iload_n hx hb dX6_digest_65 rfl (lv_at hl 2 rfl) ?_
              refine lv_iload hx hb dX6_digest_66 (lv_at hl 0 rfl) ?_
              refine lv_iconst (v := 0) hx hb dX6_digest_68 (by decide) ?_
              refine zcA_l (w := (zX k q z1ic)) (va_runV (As := [.int ib, .int ic, .int 0]) (rest := [.long x_62]) ⟨hx, hb, hml, hown, htb⟩ (c_X6_saysYes l dC dI k q z1ic ib ic 0 _ hI) (cwV 3 htb (gzV wmt3_156 wmt2_45 wmt2_46 wmt1_1 wmt2_47) rfl rfl rfl (by decide +kernel) ⟨Nat.le_of_ble_eq_true rfl, Nat.le_of_ble_eq_true rfl⟩) (zpA_V (ci := 6) (q0 := 0) hK hP (hDa _) rfl rfl) rfl rfl hl.1 rfl (lv_room (Nat.le_of_ble_eq_true rfl)) dX6_digest_69 ⟨Nat.le_of_ble_eq_true rfl, Nat.le_of_ble_eq_true rfl⟩) (hDa _) hS hA (fun r_63 u_64 H locs w_65 hP _ hS => ?_)
              obtain ⟨h_66, h_67⟩ := w_65
              replace h_66 : XInv u_64 := h_66
              replace h_67 : trX u_64 = trX z1ic := h_67
              have hI := h_66
              have hT := h_67.trans hT
              refine lv_ladd hx hb dX6_digest_72 ?_
              refine lv_topl (fun x_69 ex_69 => ?_)
              refine lv_lstore_n (lv' := [(1, .long x_69), (4, .int ic), (3, .int ib), (0, .ref (q 0))]) hx hb dX6_digest_73 rfl hl (by decide) rfl (fun ls hl => ?_)
              refine lv_ldc2 (v := 31) hx hb hown (htb _ wmt3_153) dX6_digest_74 ?_
              refine lv_lload_n hx hb dX6_digest_77 rfl (lv_at hl 0 rfl) ?_
              refine lv_lmul hx hb dX6_digest_78 ?_
              refine lv_topl (fun x_70 ex_70 => ?_)
              refine lv_aload_n hx hb dX6_digest_79 rfl (lv_at hl 3 rfl) ?_
              refine lv_iload_n hx hb dX6_digest_80 rfl (lv_at hl 2 rfl) ?_
              refine lv_iload hx hb dX6_digest_81 (lv_at hl 1 rfl) ?_
              refine lv_iconst (v := 1) hx hb dX6_digest_83 (by decide) ?_
              refine zcA_l (w := (zX k q u_64)) (va_runV (As := [.int ib, .int ic, .int 1]) (rest := [.long x_70]) ⟨hx, hb, hml, hown, htb⟩ (c_X6_saysYes l dC dI k q u_64 ib ic 1 _ hI) (cwV 3 htb (gzV wmt3_156 wmt2_45 wmt2_46 wmt1_1 wmt2_47) rfl rfl rfl (by decide +kernel) ⟨Nat.le_of_ble_eq_true rfl, Nat.le_of_ble_eq_true rfl⟩) (zpA_V (ci := 6) (q0 := 0) hK hP (hDa _) rfl rfl) rfl rfl hl.1 rfl (lv_room (Nat.le_of_ble_eq_true rfl)) dX6_digest_84 ⟨Nat.le_of_ble_eq_true rfl, Nat.le_of_ble_eq_true rfl⟩) (hDa _) hS hA (fun r_71 u_72 H locs w_73 hP _ hS => ?_)
              obtain ⟨h_74, h_75⟩ := w_73
              replace h_74 : XInv u_72 := h_74
              replace h_75 : trX u_72 = trX u_64 := h_75
              have hI := h_74
              have hT := h_75.trans hT
              refine lv_ladd hx hb dX6_digest_87 ?_
              refine lv_topl (fun x_77 ex_77 => ?_)
              refine lv_lstore_n (lv' := [(1, .long x_77), (4, .int ic), (3, .int ib), (0, .ref (q 0))]) hx hb dX6_digest_88 rfl hl (by decide) rfl (fun ls hl => ?_)
              obtain ⟨x_78, ex_78⟩ : ∃ y : Int32, y = ic + (-1) := ⟨_, rfl⟩
              have hx_78 : x_78.toInt = ic.toInt + (-1) := z_add ex_78 rfl (show ((-1) : Int32).toInt = (-1) by decide) (by omega)
              refine lv_iinc (v := x_78) (lv' := [(4, .int x_78), (1, .long x_77), (3, .int ib), (0, .ref (q 0))]) hx hb dX6_digest_89 hl (k := 1) rfl (by rw [ex_78]; rfl) (by decide) rfl (fun ls hl => ?_)
              refine lv_goto (tgt := 54) hx hb dX6_digest_92 (by decide) ?_
              exact ih54 ((x_78.toInt + 1).toNat) (by omega) x_77 x_78 u_72 ⟨(show -1 ≤ x_78.toInt ∧ x_78.toInt ≤ 1 by omega), hI, hT⟩ rfl H locs ls hP hS (lv_sub hl [0, 1, 2, 3] rfl)
    · skip
      have hc_1 := zb_nlt (show (7 : Int32).toInt = 7 by decide) rfl c_1
      refine lv_ldc2 (v := 31) hx hb hown (htb _ wmt3_153) dX6_digest_12 ?_
      refine lv_lload_n hx hb dX6_digest_15 rfl (lv_at hl 1 rfl) ?_
      refine lv_lmul hx hb dX6_digest_16 ?_
      refine lv_topl (fun x_79 ex_79 => ?_)
      refine lv_aload_n hx hb dX6_digest_17 rfl (lv_at hl 2 rfl) ?_
      refine lv_iload_n hx hb dX6_digest_18 rfl (lv_at hl 0 rfl) ?_
      refine zcA_i (w := (zX k q z1ia)) (va_runV (As := [.int ia]) (rest := [.long x_79]) ⟨hx, hb, hml, hown, htb⟩ (c_X6_count l dC dI k q z1ia ia _ hI) (cwV 1 htb (gzV wmt3_154 wmt3_137 wmt3_138 wmt1_1 wmt3_139) rfl rfl rfl (by decide +kernel) ⟨Nat.le_of_ble_eq_true rfl, Nat.le_of_ble_eq_true rfl⟩) (zpA_V (ci := 6) (q0 := 0) hK hP (hDa _) rfl rfl) rfl rfl hl.1 rfl (lv_room (Nat.le_of_ble_eq_true rfl)) dX6_digest_19 ⟨Nat.le_of_ble_eq_true rfl, Nat.le_of_ble_eq_true rfl⟩) (hDa _) hS hA (fun r_80 u_81 H locs w_82 hP _ hS => ?_)
      refine lv_i2l (v := r_80.toInt64) hx hb dX6_digest_22 rfl ?_
      refine lv_topl (fun x_83 ex_83 => ?_)
      have hx_83 : x_83.toInt = r_80.toInt := by rw [ex_83]; exact Jvm.Kit.i64_of_i32 _
      refine lv_ladd hx hb dX6_digest_23 ?_
      refine lv_topl (fun x_84 ex_84 => ?_)
      refine lv_lstore_n (lv' := [(1, .long x_84), (3, .int ia), (0, .ref (q 0))]) hx hb dX6_digest_24 rfl hl (by decide) rfl (fun ls hl => ?_)
      obtain ⟨x_85, ex_85⟩ : ∃ y : Int32, y = ia + 1 := ⟨_, rfl⟩
      have hx_85 : x_85.toInt = ia.toInt + 1 := z_add ex_85 rfl (show (1 : Int32).toInt = 1 by decide) (by omega)
      refine lv_iinc (v := x_85) (lv' := [(3, .int x_85), (1, .long x_84), (0, .ref (q 0))]) hx hb dX6_digest_25 hl (k := 1) rfl (by rw [ex_85]; rfl) (by decide) rfl (fun ls hl => ?_)
      refine lv_goto (tgt := 6) hx hb dX6_digest_28 (by decide) ?_
      exact ih6 ((8 - x_85.toInt).toNat) (by omega) x_84 x_85 z1ia ⟨(show 0 ≤ x_85.toInt ∧ x_85.toInt ≤ 8 by omega), hI, hT⟩ rfl H locs ls hP hS (lv_sub hl [0, 1, 2] rfl)
