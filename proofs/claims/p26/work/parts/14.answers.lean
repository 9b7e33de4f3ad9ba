set_option maxHeartbeats 4000000 in
set_option maxRecDepth 100000 in
theorem c_X0_isThere (l : Launch) (dC : Nat → ClassId) (dI : Nat → Nat → Nat) (k : Nat → ClassId) (a : Nat → Nat) (z : ZS) (n : Int32) (sz : Nat)  : Met l yX0_isThere (wz yX0_isThere cX0_isThere 2 (some .boolean)) ({ frames := 0, cells := 0, slots := 0, locals := 0 }) (va_Pc [.ref (a 0), .int n] (zPre dC dI k (zTX k) (zA k a z) sz)) (va_Qi (fun (r : Int32) (u : Unit) => (r = 1 ∧ (0 ≤ n.toInt ∧ n.toInt < (z.1 1).toInt)) ∨ (r = 0 ∧ (¬ (0 ≤ n.toInt ∧ n.toInt < (z.1 1).toInt)))) (fun u t => zPost dC dI (va_A (zA k a z) sz) (zA k a z) t) (va_A (zA k a z) sz)) 0 0 (va_A (zA k a z) sz) := by
  refine Met.ofW (cc := cX0_isThere) (maxL := 2) (ret := (some .boolean)) (by decide) rfl ?_
  intro p e s m args below meth c s₁ B hml hv
  obtain ⟨rfl, hsz, hP, hK, hD0⟩ := hv
  have hx := B.exec
  have hb := B.bytes
  have hr := B.returns
  have hts := atoms_spec (ws := wz yX0_isThere cX0_isThere 2 (some .boolean)) B.pre
  have htb : ∀ w ∈ zw, w.before _ s = true := fun w h => hts w (List.mem_cons_of_mem _ h)
  have hown : s.vm.findClass RX0 = some m.cls := findClass_of_methodNamed B.named
  have hlocks := B.notSynchronized
  clear hts
  subst hsz
  have hD := hD0.self (sz := s.heap.size)
  generalize hAe : va_A (zA k a z) s.heap.size = A at hD ⊢
  have hA : ∀ q : Nat, s.heap.size ≤ q → A q := fun q h => by rw [← hAe]; exact Or.inr h
  have hDa : ∀ z9 : ZS, va_D A (zA k a z9) := fun z9 => va_D_adr (w := zA k a z) rfl hD
  have hl := lv_entry ([.ref (a 0), .int n]) (n := 2) (Nat.le_of_ble_eq_true rfl)
  rw [lg_entry_eq]
  generalize (lg_sl ([.ref (a 0), .int n]) ++ List.replicate (2 - (lg_sl ([.ref (a 0), .int n])).length) Slot.unset).toArray = ls at hl ⊢
  have hl : lv_has ls 2 [(0, .ref (a 0)), (1, .int n)] := hl
  refine z_start2 (A := A) (w := (zA k a z)) hP (fun H locs hP hS => ?_)
  clear hD0 hAe
  refine lv_iload_n hx hb dX0_isThere_0 rfl (lv_at hl 1 rfl) ?_
  refine lv_if_lt (tgt := 16) hx hb dX0_isThere_1 (by decide) (fun c_1 => ?_) (fun c_1 => ?_)
  · skip
    have hc_1 := zb_lt rfl (show (0 : Int32).toInt = 0 by decide) c_1
    refine lv_iconst (v := 0) hx hb dX0_isThere_16 (by decide) ?_
    exact W.zret (v := 0) (ty := .boolean) hx hb hr rfl (fun t ht hW => ⟨⟨0, (), rfl, Or.inr (⟨rfl, (by first | assumption | omega | decide | rfl)⟩), ⟨by rw [ht]; exact hP, hDa _⟩⟩, hS.F ht⟩) hS.2.2 dX0_isThere_17
  · skip
    have hc_1 := zb_nlt rfl (show (0 : Int32).toInt = 0 by decide) c_1
    refine lv_iload_n hx hb dX0_isThere_4 rfl (lv_at hl 1 rfl) ?_
    refine lv_aload_n hx hb dX0_isThere_5 rfl (lv_at hl 0 rfl) ?_
    refine va_get (D := (dC, dI)) (ci := 0) (v := .int (z.1 1)) (C := RX0) (T := TX0) (N := 9) hx hb htb inw0 hown hK.1 hP 0 rfl rfl 8 (by decide) (htb _ wmt1_46) (fun _ h9 => h9) rfl dX0_isThere_6 ?_
    refine lv_topi (fun x_2 ex_2 => ?_)
    have hx_2 : x_2.toInt = (z.1 1).toInt := by rw [ex_2]
    refine lv_icmp_ge (tgt := 16) hx hb dX0_isThere_9 (by decide) (fun c_3 => ?_) (fun c_3 => ?_)
    · skip
      have hc_3 := zb_le rfl rfl c_3
      refine lv_iconst (v := 0) hx hb dX0_isThere_16 (by decide) ?_
      exact W.zret (v := 0) (ty := .boolean) hx hb hr rfl (fun t ht hW => ⟨⟨0, (), rfl, Or.inr (⟨rfl, (by first | assumption | omega | decide | rfl)⟩), ⟨by rw [ht]; exact hP, hDa _⟩⟩, hS.F ht⟩) hS.2.2 dX0_isThere_17
    · skip
      have hc_3 := zb_nle rfl rfl c_3
      refine lv_iconst (v := 1) hx hb dX0_isThere_12 (by decide) ?_
      refine lv_goto (tgt := 17) hx hb dX0_isThere_13 (by decide) ?_
      exact W.zret (v := 1) (ty := .boolean) hx hb hr rfl (fun t ht hW => ⟨⟨1, (), rfl, Or.inl (⟨rfl, (by first | assumption | omega | decide | rfl)⟩), ⟨by rw [ht]; exact hP, hDa _⟩⟩, hS.F ht⟩) hS.2.2 dX0_isThere_17
set_option maxHeartbeats 4000000 in
set_option maxRecDepth 100000 in
theorem c_X0_isKnown (l : Launch) (dC : Nat → ClassId) (dI : Nat → Nat → Nat) (k : Nat → ClassId) (a : Nat → Nat) (z : ZS) (n : Int32) (dy : Int32) (sz : Nat) (hn : 0 ≤ n.toInt ∧ n.toInt < 120) : Met l yX0_isKnown (wz yX0_isKnown cX0_isKnown 3 (some .boolean)) ({ frames := 0, cells := 0, slots := 0, locals := 0 }) (va_Pc [.ref (a 0), .int n, .int dy] (zPre dC dI k (zTX k) (zA k a z) sz)) (va_Qi (fun (r : Int32) (u : Unit) => True) (fun u t => zPost dC dI (va_A (zA k a z) sz) (zA k a z) t) (va_A (zA k a z) sz)) 0 0 (va_A (zA k a z) sz) := by
  refine Met.ofW (cc := cX0_isKnown) (maxL := 3) (ret := (some .boolean)) (by decide) rfl ?_
  intro p e s m args below meth c s₁ B hml hv
  obtain ⟨rfl, hsz, hP, hK, hD0⟩ := hv
  have hx := B.exec
  have hb := B.bytes
  have hr := B.returns
  have hts := atoms_spec (ws := wz yX0_isKnown cX0_isKnown 3 (some .boolean)) B.pre
  have htb : ∀ w ∈ zw, w.before _ s = true := fun w h => hts w (List.mem_cons_of_mem _ h)
  have hown : s.vm.findClass RX0 = some m.cls := findClass_of_methodNamed B.named
  have hlocks := B.notSynchronized
  clear hts
  subst hsz
  have hD := hD0.self (sz := s.heap.size)
  generalize hAe : va_A (zA k a z) s.heap.size = A at hD ⊢
  have hA : ∀ q : Nat, s.heap.size ≤ q → A q := fun q h => by rw [← hAe]; exact Or.inr h
  have hDa : ∀ z9 : ZS, va_D A (zA k a z9) := fun z9 => va_D_adr (w := zA k a z) rfl hD
  have hl := lv_entry ([.ref (a 0), .int n, .int dy]) (n := 3) (Nat.le_of_ble_eq_true rfl)
  rw [lg_entry_eq]
  generalize (lg_sl ([.ref (a 0), .int n, .int dy]) ++ List.replicate (3 - (lg_sl ([.ref (a 0), .int n, .int dy])).length) Slot.unset).toArray = ls at hl ⊢
  have hl : lv_has ls 3 [(0, .ref (a 0)), (1, .int n), (2, .int dy)] := hl
  refine z_start2 (A := A) (w := (zA k a z)) hP (fun H locs hP hS => ?_)
  clear hD0 hAe
  refine lv_aload_n hx hb dX0_isKnown_0 rfl (lv_at hl 0 rfl) ?_
  refine va_get (D := (dC, dI)) (ci := 0) (v := .ref (a 4)) (C := RX0) (T := TX0) (N := 9) hx hb htb inw0 hown hK.1 hP 0 rfl rfl 3 (by decide) (htb _ wmt1_36) (fun _ h9 => h9) rfl dX0_isKnown_1 ?_
  refine lv_iload_n hx hb dX0_isKnown_4 rfl (lv_at hl 1 rfl) ?_
  refine va_iald (D := (dC, dI)) hx hb hK.1 hP 4 0 rfl rfl (z_in (by omega)) dX0_isKnown_5 ?_
  refine lv_topi (fun x_1 ex_1 => ?_)
  refine lv_iload_n hx hb dX0_isKnown_6 rfl (lv_at hl 2 rfl) ?_
  refine lv_icmp_gt (tgt := 34) hx hb dX0_isKnown_7 (by decide) (fun c_2 => ?_) (fun c_2 => ?_)
  · skip
    have hc_2 := zb_lt rfl rfl c_2
    refine lv_iconst (v := 0) hx hb dX0_isKnown_34 (by decide) ?_
    exact W.zret (v := 0) (ty := .boolean) hx hb hr rfl (fun t ht hW => ⟨⟨0, (), rfl, trivial, ⟨by rw [ht]; exact hP, hDa _⟩⟩, hS.F ht⟩) hS.2.2 dX0_isKnown_35
  · skip
    have hc_2 := zb_nlt rfl rfl c_2
    refine lv_aload_n hx hb dX0_isKnown_10 rfl (lv_at hl 0 rfl) ?_
    refine va_get (D := (dC, dI)) (ci := 0) (v := .ref (a 5)) (C := RX0) (T := TX0) (N := 9) hx hb htb inw0 hown hK.1 hP 0 rfl rfl 4 (by decide) (htb _ wmt1_38) (fun _ h9 => h9) rfl dX0_isKnown_11 ?_
    refine lv_iload_n hx hb dX0_isKnown_14 rfl (lv_at hl 1 rfl) ?_
    refine va_iald (D := (dC, dI)) hx hb hK.1 hP 5 0 rfl rfl (z_in (by omega)) dX0_isKnown_15 ?_
    refine lv_topi (fun x_3 ex_3 => ?_)
    refine lv_iconst (v := (-1)) hx hb dX0_isKnown_16 (by decide) ?_
    refine lv_icmp_eq (tgt := 30) hx hb dX0_isKnown_17 (by decide) (fun c_4 => ?_) (fun c_4 => ?_)
    · skip
      have hc_4 := zb_eq rfl (show ((-1) : Int32).toInt = (-1) by decide) c_4
      refine lv_iconst (v := 1) hx hb dX0_isKnown_30 (by decide) ?_
      refine lv_goto (tgt := 35) hx hb dX0_isKnown_31 (by decide) ?_
      exact W.zret (v := 1) (ty := .boolean) hx hb hr rfl (fun t ht hW => ⟨⟨1, (), rfl, trivial, ⟨by rw [ht]; exact hP, hDa _⟩⟩, hS.F ht⟩) hS.2.2 dX0_isKnown_35
    · skip
      have hc_4 := zb_ne rfl (show ((-1) : Int32).toInt = (-1) by decide) c_4
      refine lv_aload_n hx hb dX0_isKnown_20 rfl (lv_at hl 0 rfl) ?_
      refine va_get (D := (dC, dI)) (ci := 0) (v := .ref (a 5)) (C := RX0) (T := TX0) (N := 9) hx hb htb inw0 hown hK.1 hP 0 rfl rfl 4 (by decide) (htb _ wmt1_38) (fun _ h9 => h9) rfl dX0_isKnown_21 ?_
      refine lv_iload_n hx hb dX0_isKnown_24 rfl (lv_at hl 1 rfl) ?_
      refine va_iald (D := (dC, dI)) hx hb hK.1 hP 5 0 rfl rfl (z_in (by omega)) dX0_isKnown_25 ?_
      refine lv_topi (fun x_5 ex_5 => ?_)
      refine lv_iload_n hx hb dX0_isKnown_26 rfl (lv_at hl 2 rfl) ?_
      refine lv_icmp_le (tgt := 34) hx hb dX0_isKnown_27 (by decide) (fun c_6 => ?_) (fun c_6 => ?_)
      · skip
        have hc_6 := zb_le rfl rfl c_6
        refine lv_iconst (v := 0) hx hb dX0_isKnown_34 (by decide) ?_
        exact W.zret (v := 0) (ty := .boolean) hx hb hr rfl (fun t ht hW => ⟨⟨0, (), rfl, trivial, ⟨by rw [ht]; exact hP, hDa _⟩⟩, hS.F ht⟩) hS.2.2 dX0_isKnown_35
      · skip
        have hc_6 := zb_nle rfl rfl c_6
        refine lv_iconst (v := 1) hx hb dX0_isKnown_30 (by decide) ?_
        refine lv_goto (tgt := 35) hx hb dX0_isKnown_31 (by decide) ?_
        exact W.zret (v := 1) (ty := .boolean) hx hb hr rfl (fun t ht hW => ⟨⟨1, (), rfl, trivial, ⟨by rw [ht]; exact hP, hDa _⟩⟩, hS.F ht⟩) hS.2.2 dX0_isKnown_35
set_option maxHeartbeats 4000000 in
set_option maxRecDepth 100000 in
theorem c_X0_knownOnes (l : Launch) (dC : Nat → ClassId) (dI : Nat → Nat → Nat) (k : Nat → ClassId) (a : Nat → Nat) (z : ZS) (dy : Int32) (ya : Int32) (sz : Nat) (hP6 : P6 (z.1 1) (z.2.2.1 0) (z.2.2.1 1)) : Met l yX0_knownOnes (wz yX0_knownOnes cX0_knownOnes 5 (some .int)) ({ frames := 1, cells := 0, slots := 0, locals := 22 }) (va_Pc [.ref (a 0), .int dy, .int ya] (zPre dC dI k (zTX k) (zA k a z) sz)) (va_Qi (fun (r : Int32) (u : Unit) => True) (fun u t => zPost dC dI (va_A (zA k a z) sz) (zA k a z) t) (va_A (zA k a z) sz)) 0 0 (va_A (zA k a z) sz) := by
  refine Met.ofW (cc := cX0_knownOnes) (maxL := 5) (ret := (some .int)) (by decide) rfl ?_
  intro p e s m args below meth c s₁ B hml hv
  obtain ⟨rfl, hsz, hP, hK, hD0⟩ := hv
  have hx := B.exec
  have hb := B.bytes
  have hr := B.returns
  have hts := atoms_spec (ws := wz yX0_knownOnes cX0_knownOnes 5 (some .int)) B.pre
  have htb : ∀ w ∈ zw, w.before _ s = true := fun w h => hts w (List.mem_cons_of_mem _ h)
  have hown : s.vm.findClass RX0 = some m.cls := findClass_of_methodNamed B.named
  have hlocks := B.notSynchronized
  clear hts
  subst hsz
  have hD := hD0.self (sz := s.heap.size)
  generalize hAe : va_A (zA k a z) s.heap.size = A at hD ⊢
  have hA : ∀ q : Nat, s.heap.size ≤ q → A q := fun q h => by rw [← hAe]; exact Or.inr h
  have hDa : ∀ z9 : ZS, va_D A (zA k a z9) := fun z9 => va_D_adr (w := zA k a z) rfl hD
  have hl := lv_entry ([.ref (a 0), .int dy, .int ya]) (n := 5) (Nat.le_of_ble_eq_true rfl)
  rw [lg_entry_eq]
  generalize (lg_sl ([.ref (a 0), .int dy, .int ya]) ++ List.replicate (5 - (lg_sl ([.ref (a 0), .int dy, .int ya])).length) Slot.unset).toArray = ls at hl ⊢
  have hl : lv_has ls 5 [(0, .ref (a 0)), (1, .int dy), (2, .int ya)] := hl
  refine z_start2 (A := A) (w := (zA k a z)) hP (fun H locs hP hS => ?_)
  clear hD0 hAe
  have hA2 := hP6.1
  have hA3 := hP6.2.1
  refine lv_iconst (v := 0) hx hb dX0_knownOnes_0 (by decide) ?_
  refine lv_istore_n (lv' := [(3, .int 0), (0, .ref (a 0)), (1, .int dy), (2, .int ya)]) hx hb dX0_knownOnes_1 rfl hl (by decide) rfl (fun ls hl => ?_)
  refine lv_iconst (v := 0) hx hb dX0_knownOnes_2 (by decide) ?_
  refine lv_istore (lv' := [(4, .int 0), (3, .int 0), (0, .ref (a 0)), (1, .int dy), (2, .int ya)]) hx hb dX0_knownOnes_3 hl (by decide) rfl (fun ls hl => ?_)
  obtain ⟨kn, ekn⟩ : ∃ x : Int32, 0 = x := ⟨_, rfl⟩
  obtain ⟨i, ei⟩ : ∃ x : Int32, 0 = x := ⟨_, rfl⟩
  have hv5 : (0 ≤ i.toInt ∧ i.toInt ≤ 120) := by subst ekn ei; exact (by decide)
  replace hl : lv_has ls 5 [(4, .int i), (3, .int kn), (0, .ref (a 0)), (1, .int dy), (2, .int ya)] := by subst ekn ei; exact hl
  clear ekn ei
  obtain ⟨mm5, hm5⟩ : ∃ mm : Nat, mm = (120 - i.toInt).toNat := ⟨_, rfl⟩
  refine z_cut2 hP hS hl ?_
  clear hl hP
  intro H locs ls hP hS hl
  induction mm5 using Nat.strongRecOn generalizing kn i H locs ls with
  | _ mm5 ih5 =>
    have hi := hv5
    refine lv_iload hx hb dX0_knownOnes_5 (lv_at hl 0 rfl) ?_
    refine lv_aload_n hx hb dX0_knownOnes_7 rfl (lv_at hl 2 rfl) ?_
    refine va_get (D := (dC, dI)) (ci := 0) (v := .int (z.1 1)) (C := RX0) (T := TX0) (N := 9) hx hb htb inw0 hown hK.1 hP 0 rfl rfl 8 (by decide) (htb _ wmt1_46) (fun _ h9 => h9) rfl dX0_knownOnes_8 ?_
    refine lv_topi (fun x_1 ex_1 => ?_)
    have hx_1 : x_1.toInt = (z.1 1).toInt := by rw [ex_1]
    refine lv_icmp_ge (tgt := 48) hx hb dX0_knownOnes_11 (by decide) (fun c_2 => ?_) (fun c_2 => ?_)
    · skip
      have hc_2 := zb_le rfl rfl c_2
      refine lv_iload_n hx hb dX0_knownOnes_48 rfl (lv_at hl 1 rfl) ?_
      exact W.iret (v := kn) hx hb hr (fun t ht hW => ⟨⟨kn, (), rfl, trivial, ⟨by rw [ht]; exact hP, hDa _⟩⟩, hS.F ht⟩) hS.2.2 dX0_knownOnes_49
    · skip
      have hc_2 := zb_nle rfl rfl c_2
      refine lv_aload_n hx hb dX0_knownOnes_14 rfl (lv_at hl 2 rfl) ?_
      refine lv_iload hx hb dX0_knownOnes_15 (lv_at hl 0 rfl) ?_
      refine lv_iload_n hx hb dX0_knownOnes_17 rfl (lv_at hl 3 rfl) ?_
      refine zcA_i (w := (zA k a z)) (va_runV (As := [.int i, .int dy]) (rest := []) ⟨hx, hb, hml, hown, htb⟩ (c_X0_isKnown l dC dI k a z i dy _ (show 0 ≤ i.toInt ∧ i.toInt < 120 by omega)) (cwV 2 htb (gzV wmt3_8 wmt2_123 wmt2_124 wmt1_2 wmt2_125) rfl rfl rfl (by decide +kernel) ⟨Nat.le_of_ble_eq_true rfl, Nat.le_of_ble_eq_true rfl⟩) (zpA_V (ci := 0) (q0 := 0) hK hP (hDa _) rfl rfl) rfl rfl hl.1 rfl (lv_room (Nat.le_of_ble_eq_true rfl)) dX0_knownOnes_18 ⟨Nat.le_of_ble_eq_true rfl, Nat.le_of_ble_eq_true rfl⟩) (hDa _) hS hA (fun r_3 u_4 H locs w_5 hP _ hS => ?_)
      refine lv_if_eq (tgt := 42) hx hb dX0_knownOnes_21 (by decide) (fun c_6 => ?_) (fun c_6 => ?_)
      · skip
        have hc_6 := zb_eq rfl (show (0 : Int32).toInt = 0 by decide) c_6
        obtain ⟨x_7, ex_7⟩ : ∃ y : Int32, y = i + 1 := ⟨_, rfl⟩
        have hx_7 : x_7.toInt = i.toInt + 1 := z_add ex_7 rfl (show (1 : Int32).toInt = 1 by decide) (by omega)
        refine lv_iinc (v := x_7) (lv' := [(4, .int x_7), (3, .int kn), (0, .ref (a 0)), (1, .int dy), (2, .int ya)]) hx hb dX0_knownOnes_42 hl (k := 0) rfl (by rw [ex_7]; rfl) (by decide) rfl (fun ls hl => ?_)
        refine lv_goto (tgt := 5) hx hb dX0_knownOnes_45 (by decide) ?_
        exact ih5 ((120 - x_7.toInt).toNat) (by omega) kn x_7 (show 0 ≤ x_7.toInt ∧ x_7.toInt ≤ 120 by omega) rfl H locs ls hP hS (lv_sub hl [0, 1, 2, 3, 4] rfl)
      · skip
        have hc_6 := zb_ne rfl (show (0 : Int32).toInt = 0 by decide) c_6
        refine lv_iload_n hx hb dX0_knownOnes_24 rfl (lv_at hl 4 rfl) ?_
        refine lv_if_eq (tgt := 39) hx hb dX0_knownOnes_25 (by decide) (fun c_8 => ?_) (fun c_8 => ?_)
        · skip
          have hc_8 := zb_eq rfl (show (0 : Int32).toInt = 0 by decide) c_8
          obtain ⟨x_9, ex_9⟩ : ∃ y : Int32, y = kn + 1 := ⟨_, rfl⟩
          refine lv_iinc (v := x_9) (lv' := [(3, .int x_9), (4, .int i), (0, .ref (a 0)), (1, .int dy), (2, .int ya)]) hx hb dX0_knownOnes_39 hl (k := 1) rfl (by rw [ex_9]; rfl) (by decide) rfl (fun ls hl => ?_)
          obtain ⟨x_10, ex_10⟩ : ∃ y : Int32, y = i + 1 := ⟨_, rfl⟩
          have hx_10 : x_10.toInt = i.toInt + 1 := z_add ex_10 rfl (show (1 : Int32).toInt = 1 by decide) (by omega)
          refine lv_iinc (v := x_10) (lv' := [(4, .int x_10), (3, .int x_9), (0, .ref (a 0)), (1, .int dy), (2, .int ya)]) hx hb dX0_knownOnes_42 hl (k := 1) rfl (by rw [ex_10]; rfl) (by decide) rfl (fun ls hl => ?_)
          refine lv_goto (tgt := 5) hx hb dX0_knownOnes_45 (by decide) ?_
          exact ih5 ((120 - x_10.toInt).toNat) (by omega) x_9 x_10 (show 0 ≤ x_10.toInt ∧ x_10.toInt ≤ 120 by omega) rfl H locs ls hP hS (lv_sub hl [0, 1, 2, 3, 4] rfl)
        · skip
          have hc_8 := zb_ne rfl (show (0 : Int32).toInt = 0 by decide) c_8
          refine lv_aload_n hx hb dX0_knownOnes_28 rfl (lv_at hl 2 rfl) ?_
          refine va_get (D := (dC, dI)) (ci := 0) (v := .ref (a 3)) (C := RX0) (T := TX0) (N := 9) hx hb htb inw0 hown hK.1 hP 0 rfl rfl 2 (by decide) (htb _ wmt1_34) (fun _ h9 => h9) rfl dX0_knownOnes_29 ?_
          refine lv_iload hx hb dX0_knownOnes_32 (lv_at hl 0 rfl) ?_
          refine va_iald (D := (dC, dI)) hx hb hK.1 hP 3 0 rfl rfl (z_in (by omega)) dX0_knownOnes_34 ?_
          refine lv_topi (fun x_11 ex_11 => ?_)
          refine lv_iconst (v := 1) hx hb dX0_knownOnes_35 (by decide) ?_
          refine lv_icmp_ne (tgt := 42) hx hb dX0_knownOnes_36 (by decide) (fun c_12 => ?_) (fun c_12 => ?_)
          · skip
            have hc_12 := zb_ne rfl (show (1 : Int32).toInt = 1 by decide) c_12
            obtain ⟨x_13, ex_13⟩ : ∃ y : Int32, y = i + 1 := ⟨_, rfl⟩
            have hx_13 : x_13.toInt = i.toInt + 1 := z_add ex_13 rfl (show (1 : Int32).toInt = 1 by decide) (by omega)
            refine lv_iinc (v := x_13) (lv' := [(4, .int x_13), (3, .int kn), (0, .ref (a 0)), (1, .int dy), (2, .int ya)]) hx hb dX0_knownOnes_42 hl (k := 0) rfl (by rw [ex_13]; rfl) (by decide) rfl (fun ls hl => ?_)
            refine lv_goto (tgt := 5) hx hb dX0_knownOnes_45 (by decide) ?_
            exact ih5 ((120 - x_13.toInt).toNat) (by omega) kn x_13 (show 0 ≤ x_13.toInt ∧ x_13.toInt ≤ 120 by omega) rfl H locs ls hP hS (lv_sub hl [0, 1, 2, 3, 4] rfl)
          · skip
            have hc_12 := zb_eq rfl (show (1 : Int32).toInt = 1 by decide) c_12
            obtain ⟨x_14, ex_14⟩ : ∃ y : Int32, y = kn + 1 := ⟨_, rfl⟩
            refine lv_iinc (v := x_14) (lv' := [(3, .int x_14), (4, .int i), (0, .ref (a 0)), (1, .int dy), (2, .int ya)]) hx hb dX0_knownOnes_39 hl (k := 1) rfl (by rw [ex_14]; rfl) (by decide) rfl (fun ls hl => ?_)
            obtain ⟨x_15, ex_15⟩ : ∃ y : Int32, y = i + 1 := ⟨_, rfl⟩
            have hx_15 : x_15.toInt = i.toInt + 1 := z_add ex_15 rfl (show (1 : Int32).toInt = 1 by decide) (by omega)
            refine lv_iinc (v := x_15) (lv' := [(4, .int x_15), (3, .int x_14), (0, .ref (a 0)), (1, .int dy), (2, .int ya)]) hx hb dX0_knownOnes_42 hl (k := 1) rfl (by rw [ex_15]; rfl) (by decide) rfl (fun ls hl => ?_)
            refine lv_goto (tgt := 5) hx hb dX0_knownOnes_45 (by decide) ?_
            exact ih5 ((120 - x_15.toInt).toNat) (by omega) x_14 x_15 (show 0 ≤ x_15.toInt ∧ x_15.toInt ≤ 120 by omega) rfl H locs ls hP hS (lv_sub hl [0, 1, 2, 3, 4] rfl)
set_option maxHeartbeats 4000000 in
set_option maxRecDepth 100000 in
theorem c_X0_tell (l : Launch) (dC : Nat → ClassId) (dI : Nat → Nat → Nat) (k : Nat → ClassId) (a : Nat → Nat) (z : ZS) (pe : Int32) (d : Int32) (y : Int32) (dy : Int32) (sz : Nat) (hP6 : P6 (z.1 1) (z.2.2.1 0) (z.2.2.1 1)) (hp : 0 ≤ pe.toInt ∧ pe.toInt < 24) (hd : 0 ≤ d.toInt ∧ d.toInt < 4) : Met l yX0_tell (wz yX0_tell cX0_tell 5 (some .int)) ({ frames := 0, cells := 0, slots := 0, locals := 0 }) (va_Pc [.ref (a 0), .int pe, .int d, .int y, .int dy] (zPre dC dI k (zTX k) (zA k a z) sz)) (va_Qi (fun (r : Int32) (u : ZS) => (r = (-4) ∧ (P6 (u.1 1) (u.2.2.1 0) (u.2.2.1 1)) ∧ (120 ≤ (z.1 1).toInt) ∧ (u.1 1 = z.1 1) ∧ (u.2.2.1 4 = z.2.2.1 4)) ∨ ((P6 (u.1 1) (u.2.2.1 0) (u.2.2.1 1)) ∧ (¬ 120 ≤ (z.1 1).toInt) ∧ (r = z.1 1) ∧ (u.1 1 = z.1 1 + 1) ∧ (u.2.2.1 4 = upd (z.2.2.1 4) (z.1 1).toNatClampNeg (-1)))) (fun u t => zPost dC dI (va_A (zA k a z) sz) (zA k a u) t) (va_A (zA k a z) sz)) 0 0 (va_A (zA k a z) sz) := by
  refine Met.ofW (cc := cX0_tell) (maxL := 5) (ret := (some .int)) (by decide) rfl ?_
  intro p e s m args below meth c s₁ B hml hv
  obtain ⟨rfl, hsz, hP, hK, hD0⟩ := hv
  have hx := B.exec
  have hb := B.bytes
  have hr := B.returns
  have hts := atoms_spec (ws := wz yX0_tell cX0_tell 5 (some .int)) B.pre
  have htb : ∀ w ∈ zw, w.before _ s = true := fun w h => hts w (List.mem_cons_of_mem _ h)
  have hown : s.vm.findClass RX0 = some m.cls := findClass_of_methodNamed B.named
  have hlocks := B.notSynchronized
  clear hts
  subst hsz
  have hD := hD0.self (sz := s.heap.size)
  generalize hAe : va_A (zA k a z) s.heap.size = A at hD ⊢
  have hA : ∀ q : Nat, s.heap.size ≤ q → A q := fun q h => by rw [← hAe]; exact Or.inr h
  have hDa : ∀ z9 : ZS, va_D A (zA k a z9) := fun z9 => va_D_adr (w := zA k a z) rfl hD
  have hl := lv_entry ([.ref (a 0), .int pe, .int d, .int y, .int dy]) (n := 5) (Nat.le_of_ble_eq_true rfl)
  rw [lg_entry_eq]
  generalize (lg_sl ([.ref (a 0), .int pe, .int d, .int y, .int dy]) ++ List.replicate (5 - (lg_sl ([.ref (a 0), .int pe, .int d, .int y, .int dy])).length) Slot.unset).toArray = ls at hl ⊢
  have hl : lv_has ls 5 [(0, .ref (a 0)), (1, .int pe), (2, .int d), (3, .int y), (4, .int dy)] := hl
  refine z_start2 (A := A) (w := (zA k a z)) hP (fun H locs hP hS => ?_)
  clear hD0 hAe
  have hA2 := hP6.1
  have hA3 := hP6.2.1
  refine lv_aload_n hx hb dX0_tell_0 rfl (lv_at hl 0 rfl) ?_
  refine va_get (D := (dC, dI)) (ci := 0) (v := .int (z.1 1)) (C := RX0) (T := TX0) (N := 9) hx hb htb inw0 hown hK.1 hP 0 rfl rfl 8 (by decide) (htb _ wmt1_46) (fun _ h9 => h9) rfl dX0_tell_1 ?_
  refine lv_topi (fun x_1 ex_1 => ?_)
  have hx_1 : x_1.toInt = (z.1 1).toInt := by rw [ex_1]
  refine lv_bipush (v := 120) hx hb dX0_tell_4 (by decide) ?_
  refine lv_icmp_lt (tgt := 12) hx hb dX0_tell_6 (by decide) (fun c_2 => ?_) (fun c_2 => ?_)
  · skip
    have hc_2 := zb_lt rfl (show (120 : Int32).toInt = 120 by decide) c_2
    refine lv_aload_n hx hb dX0_tell_12 rfl (lv_at hl 0 rfl) ?_
    refine va_get (D := (dC, dI)) (ci := 0) (v := .ref (a 1)) (C := RX0) (T := TX0) (N := 9) hx hb htb inw0 hown hK.1 hP 0 rfl rfl 0 (by decide) (htb _ wmt1_30) (fun _ h9 => h9) rfl dX0_tell_13 ?_
    refine lv_aload_n hx hb dX0_tell_16 rfl (lv_at hl 0 rfl) ?_
    refine va_get (D := (dC, dI)) (ci := 0) (v := .int (z.1 1)) (C := RX0) (T := TX0) (N := 9) hx hb htb inw0 hown hK.1 hP 0 rfl rfl 8 (by decide) (htb _ wmt1_46) (fun _ h9 => h9) rfl dX0_tell_17 ?_
    refine z_top (v2 := .int x_1) (congrArg Value.int ex_1.symm) ?_
    refine lv_iload_n hx hb dX0_tell_20 rfl (lv_at hl 1 rfl) ?_
    refine va_iast (D := (dC, dI)) hx hb hK.1 hP (hDa _) hS 1 0 rfl rfl (z_in (by omega)) dX0_tell_21 (fun H locs hP _ hS => ?_)
    obtain ⟨f_3, ef_3⟩ : ∃ x : Nat → Int32, x = upd (z.2.2.1 0) x_1.toNatClampNeg pe := ⟨_, rfl⟩
    have hP : va_P (dC, dI) vwCl (zA k a (sA z 0 f_3)) H := by rw [ef_3]; exact hP
    refine lv_aload_n hx hb dX0_tell_22 rfl (lv_at hl 0 rfl) ?_
    refine va_get (D := (dC, dI)) (ci := 0) (v := .ref (a 2)) (C := RX0) (T := TX0) (N := 9) hx hb htb inw0 hown hK.1 hP 0 rfl rfl 1 (by decide) (htb _ wmt1_32) (fun _ h9 => h9) rfl dX0_tell_23 ?_
    refine lv_aload_n hx hb dX0_tell_26 rfl (lv_at hl 0 rfl) ?_
    refine va_get (D := (dC, dI)) (ci := 0) (v := .int (z.1 1)) (C := RX0) (T := TX0) (N := 9) hx hb htb inw0 hown hK.1 hP 0 rfl rfl 8 (by decide) (htb _ wmt1_46) (fun _ h9 => h9) rfl dX0_tell_27 ?_
    refine z_top (v2 := .int x_1) (congrArg Value.int ex_1.symm) ?_
    refine lv_iload_n hx hb dX0_tell_30 rfl (lv_at hl 2 rfl) ?_
    refine va_iast (D := (dC, dI)) hx hb hK.1 hP (hDa _) hS 2 0 rfl rfl (z_in (by omega)) dX0_tell_31 (fun H locs hP _ hS => ?_)
    obtain ⟨f_4, ef_4⟩ : ∃ x : Nat → Int32, x = upd (z.2.2.1 1) x_1.toNatClampNeg d := ⟨_, rfl⟩
    have hP : va_P (dC, dI) vwCl (zA k a (sA (sA z 0 f_3) 1 f_4)) H := by rw [ef_4]; exact hP
    refine lv_aload_n hx hb dX0_tell_32 rfl (lv_at hl 0 rfl) ?_
    refine va_get (D := (dC, dI)) (ci := 0) (v := .ref (a 3)) (C := RX0) (T := TX0) (N := 9) hx hb htb inw0 hown hK.1 hP 0 rfl rfl 2 (by decide) (htb _ wmt1_34) (fun _ h9 => h9) rfl dX0_tell_33 ?_
    refine lv_aload_n hx hb dX0_tell_36 rfl (lv_at hl 0 rfl) ?_
    refine va_get (D := (dC, dI)) (ci := 0) (v := .int (z.1 1)) (C := RX0) (T := TX0) (N := 9) hx hb htb inw0 hown hK.1 hP 0 rfl rfl 8 (by decide) (htb _ wmt1_46) (fun _ h9 => h9) rfl dX0_tell_37 ?_
    refine z_top (v2 := .int x_1) (congrArg Value.int ex_1.symm) ?_
    refine lv_iload_n hx hb dX0_tell_40 rfl (lv_at hl 3 rfl) ?_
    refine va_iast (D := (dC, dI)) hx hb hK.1 hP (hDa _) hS 3 0 rfl rfl (z_in (by omega)) dX0_tell_41 (fun H locs hP _ hS => ?_)
    obtain ⟨f_5, ef_5⟩ : ∃ x : Nat → Int32, x = upd (z.2.2.1 2) x_1.toNatClampNeg y := ⟨_, rfl⟩
    have hP : va_P (dC, dI) vwCl (zA k a (sA (sA (sA z 0 f_3) 1 f_4) 2 f_5)) H := by rw [ef_5]; exact hP
    refine lv_aload_n hx hb dX0_tell_42 rfl (lv_at hl 0 rfl) ?_
    refine va_get (D := (dC, dI)) (ci := 0) (v := .ref (a 4)) (C := RX0) (T := TX0) (N := 9) hx hb htb inw0 hown hK.1 hP 0 rfl rfl 3 (by decide) (htb _ wmt1_36) (fun _ h9 => h9) rfl dX0_tell_43 ?_
    refine lv_aload_n hx hb dX0_tell_46 rfl (lv_at hl 0 rfl) ?_
    refine va_get (D := (dC, dI)) (ci := 0) (v := .int (z.1 1)) (C := RX0) (T := TX0) (N := 9) hx hb htb inw0 hown hK.1 hP 0 rfl rfl 8 (by decide) (htb _ wmt1_46) (fun _ h9 => h9) rfl dX0_tell_47 ?_
    refine z_top (v2 := .int x_1) (congrArg Value.int ex_1.symm) ?_
    refine lv_iload hx hb dX0_tell_50 (lv_at hl 4 rfl) ?_
    refine va_iast (D := (dC, dI)) hx hb hK.1 hP (hDa _) hS 4 0 rfl rfl (z_in (by omega)) dX0_tell_52 (fun H locs hP _ hS => ?_)
    obtain ⟨f_6, ef_6⟩ : ∃ x : Nat → Int32, x = upd (z.2.2.1 3) x_1.toNatClampNeg dy := ⟨_, rfl⟩
    have hP : va_P (dC, dI) vwCl (zA k a (sA (sA (sA (sA z 0 f_3) 1 f_4) 2 f_5) 3 f_6)) H := by rw [ef_6]; exact hP
    refine lv_aload_n hx hb dX0_tell_53 rfl (lv_at hl 0 rfl) ?_
    refine va_get (D := (dC, dI)) (ci := 0) (v := .ref (a 5)) (C := RX0) (T := TX0) (N := 9) hx hb htb inw0 hown hK.1 hP 0 rfl rfl 4 (by decide) (htb _ wmt1_38) (fun _ h9 => h9) rfl dX0_tell_54 ?_
    refine lv_aload_n hx hb dX0_tell_57 rfl (lv_at hl 0 rfl) ?_
    refine va_get (D := (dC, dI)) (ci := 0) (v := .int (z.1 1)) (C := RX0) (T := TX0) (N := 9) hx hb htb inw0 hown hK.1 hP 0 rfl rfl 8 (by decide) (htb _ wmt1_46) (fun _ h9 => h9) rfl dX0_tell_58 ?_
    refine z_top (v2 := .int x_1) (congrArg Value.int ex_1.symm) ?_
    refine lv_iconst (v := (-1)) hx hb dX0_tell_61 (by decide) ?_
    refine va_iast (D := (dC, dI)) hx hb hK.1 hP (hDa _) hS 5 0 rfl rfl (z_in (by omega)) dX0_tell_62 (fun H locs hP _ hS => ?_)
    obtain ⟨f_7, ef_7⟩ : ∃ x : Nat → Int32, x = upd (z.2.2.1 4) x_1.toNatClampNeg (-1) := ⟨_, rfl⟩
    have hP : va_P (dC, dI) vwCl (zA k a (sA (sA (sA (sA (sA z 0 f_3) 1 f_4) 2 f_5) 3 f_6) 4 f_7)) H := by rw [ef_7]; exact hP
    refine lv_aload_n hx hb dX0_tell_63 rfl (lv_at hl 0 rfl) ?_
    refine lv_dup hx hb dX0_tell_64 rfl ?_
    refine va_get (D := (dC, dI)) (ci := 0) (v := .int (z.1 1)) (C := RX0) (T := TX0) (N := 9) hx hb htb inw0 hown hK.1 hP 0 rfl rfl 8 (by decide) (htb _ wmt1_46) (fun _ h9 => h9) rfl dX0_tell_65 ?_
    refine z_top (v2 := .int x_1) (congrArg Value.int ex_1.symm) ?_
    refine lv_iconst (v := 1) hx hb dX0_tell_68 (by decide) ?_
    refine lv_iadd hx hb dX0_tell_69 ?_
    refine lv_topi (fun x_8 ex_8 => ?_)
    have hx_8 : x_8.toInt = x_1.toInt + 1 := z_add ex_8 rfl (show (1 : Int32).toInt = 1 by decide) (by omega)
    refine va_put (D := (dC, dI)) (ci := 0) (v := .int x_8) (ty := .int) (C := RX0) (T := TX0) (N := 9) hx hb htb inw0 tyX0 tyX0_ok nmX0 hown hK.1 hP (hDa _) hS 0 rfl rfl 8 (by decide) (htb _ wmt1_46) (fun _ h9 => h9) rfl (by decide +kernel) rfl rfl (Nat.le_of_ble_eq_true rfl) dX0_tell_70 (fun H locs hP _ hS => ?_)
    have hP : va_P (dC, dI) vwCl (zA k a (sI (sA (sA (sA (sA (sA z 0 f_3) 1 f_4) 2 f_5) 3 f_6) 4 f_7) 1 x_8)) H := hP
    refine lv_aload_n hx hb dX0_tell_73 rfl (lv_at hl 0 rfl) ?_
    refine va_get (D := (dC, dI)) (ci := 0) (v := .int x_8) (C := RX0) (T := TX0) (N := 9) hx hb htb inw0 hown hK.1 hP 0 rfl rfl 8 (by decide) (htb _ wmt1_46) (fun _ h9 => h9) rfl dX0_tell_74 ?_
    refine lv_iconst (v := 1) hx hb dX0_tell_77 (by decide) ?_
    refine lv_isub hx hb dX0_tell_78 ?_
    refine lv_topi (fun x_9 ex_9 => ?_)
    have hx_9 := z_sub ex_9 rfl (show (1 : Int32).toInt = 1 by decide) (by omega)
    exact W.iret (v := x_9) hx hb hr (fun t ht hW => ⟨⟨x_9, (sI (sA (sA (sA (sA (sA z 0 f_3) 1 f_4) 2 f_5) 3 f_6) 4 f_7) 1 x_8), rfl, (Or.inr ⟨P6_tell hP6 ex_1 (by omega) ex_8 ef_3 ef_4 hp hd, by omega, Int32.toInt_inj.mp (by omega), by rw [← ex_1]; exact ex_8, by rw [← ex_1]; exact ef_7⟩), ⟨by rw [ht]; exact hP, hDa _⟩⟩, hS.F ht⟩) hS.2.2 dX0_tell_79
  · skip
    have hc_2 := zb_nlt rfl (show (120 : Int32).toInt = 120 by decide) c_2
    refine lv_bipush (v := (-4)) hx hb dX0_tell_9 (by decide) ?_
    exact W.iret (v := (-4)) hx hb hr (fun t ht hW => ⟨⟨(-4), z, rfl, (Or.inl ⟨rfl, hP6, by omega, rfl, rfl⟩), ⟨by rw [ht]; exact hP, hDa _⟩⟩, hS.F ht⟩) hS.2.2 dX0_tell_11
set_option maxHeartbeats 4000000 in
set_option maxRecDepth 100000 in
theorem c_X0_pick (l : Launch) (dC : Nat → ClassId) (dI : Nat → Nat → Nat) (k : Nat → ClassId) (a : Nat → Nat) (z : ZS) (pe : Int32) (dy : Int32) (sz : Nat) (hP6 : P6 (z.1 1) (z.2.2.1 0) (z.2.2.1 1)) : Met l yX0_pick (wz yX0_pick cX0_pick 5 none) ({ frames := 1, cells := 0, slots := 0, locals := 23 }) (va_Pc [.ref (a 0), .int pe, .int dy] (zPre dC dI k (zTX k) (zA k a z) sz)) (va_Qv (fun (u : ZS) => (P6 (u.1 1) (u.2.2.1 0) (u.2.2.1 1)) ∧ (PK (u.1 0) (u.2.2.1 5) (u.2.2.1 6) (u.1 1)) ∧ (u.1 1 = z.1 1) ∧ (u.2.2.1 4 = z.2.2.1 4)) (fun u t => zPost dC dI (va_A (zA k a z) sz) (zA k a u) t) (va_A (zA k a z) sz)) 0 0 (va_A (zA k a z) sz) := by
  refine Met.ofW (cc := cX0_pick) (maxL := 5) (ret := none) (by decide) rfl ?_
  intro p e s m args below meth c s₁ B hml hv
  obtain ⟨rfl, hsz, hP, hK, hD0⟩ := hv
  have hx := B.exec
  have hb := B.bytes
  have hr := B.returns
  have hts := atoms_spec (ws := wz yX0_pick cX0_pick 5 none) B.pre
  have htb : ∀ w ∈ zw, w.before _ s = true := fun w h => hts w (List.mem_cons_of_mem _ h)
  have hown : s.vm.findClass RX0 = some m.cls := findClass_of_methodNamed B.named
  have hlocks := B.notSynchronized
  clear hts
  subst hsz
  have hD := hD0.self (sz := s.heap.size)
  generalize hAe : va_A (zA k a z) s.heap.size = A at hD ⊢
  have hA : ∀ q : Nat, s.heap.size ≤ q → A q := fun q h => by rw [← hAe]; exact Or.inr h
  have hDa : ∀ z9 : ZS, va_D A (zA k a z9) := fun z9 => va_D_adr (w := zA k a z) rfl hD
  have hl := lv_entry ([.ref (a 0), .int pe, .int dy]) (n := 5) (Nat.le_of_ble_eq_true rfl)
  rw [lg_entry_eq]
  generalize (lg_sl ([.ref (a 0), .int pe, .int dy]) ++ List.replicate (5 - (lg_sl ([.ref (a 0), .int pe, .int dy])).length) Slot.unset).toArray = ls at hl ⊢
  have hl : lv_has ls 5 [(0, .ref (a 0)), (1, .int pe), (2, .int dy)] := hl
  refine z_start2 (A := A) (w := (zA k a z)) hP (fun H locs hP hS => ?_)
  clear hD0 hAe
  have hA2 := hP6.1
  have hA3 := hP6.2.1
  refine lv_aload_n hx hb dX0_pick_0 rfl (lv_at hl 0 rfl) ?_
  refine va_get (D := (dC, dI)) (ci := 0) (v := .ref (a 6)) (C := RX0) (T := TX0) (N := 9) hx hb htb inw0 hown hK.1 hP 0 rfl rfl 5 (by decide) (htb _ wmt1_40) (fun _ h9 => h9) rfl dX0_pick_1 ?_
  refine lv_iconst (v := 0) hx hb dX0_pick_4 (by decide) ?_
  refine zcS_v (w := (zA k a z)) (wc := (zI4 k (fun _ => (a 6)) ((fun _ => 0, fun _ => 0, fun _ => z.2.2.1 5, fun _ _ => 0) : ZS))) (va_runS (As := [.ref (a 6), .int 0]) (rest := []) ⟨hx, hb, hml, hown, htb⟩ (c_J7_fill_53178_4 l dC dI k (fun _ => (a 6)) ((fun _ => 0, fun _ => 0, fun _ => z.2.2.1 5, fun _ _ => 0) : ZS) 0 _ ) (va_cwS 2 htb (gzS wmt3_5 wmt3_6 wmt1_9 wmt3_7) rfl rfl rfl (by decide +kernel) ⟨Nat.le_of_ble_eq_true rfl, Nat.le_of_ble_eq_true rfl⟩) (zp_S hK hP (hDa _) [6] rfl (by decide)) rfl rfl hl.1 rfl (lv_room (Nat.le_of_ble_eq_true rfl)) dX0_pick_5 ⟨Nat.le_of_ble_eq_true rfl, Nat.le_of_ble_eq_true rfl⟩) hP (hDa _) hS hA [6] rfl (fun _ => rfl) (fun u_2 H locs w_3 hP _ hS => ?_)
  have hP : va_P (dC, dI) vwCl (zA k a (sA z 5 (u_2.2.2.1 0))) H := hP
  have h_4 := w_3
  replace h_4 : ∀ j : Nat, j < 4 → u_2.2.2.1 0 j = (0 : Int32) := h_4
  refine lv_aload_n hx hb dX0_pick_8 rfl (lv_at hl 0 rfl) ?_
  refine lv_iconst (v := 0) hx hb dX0_pick_9 (by decide) ?_
  refine va_put (D := (dC, dI)) (ci := 0) (v := .int 0) (ty := .int) (C := RX0) (T := TX0) (N := 9) hx hb htb inw0 tyX0 tyX0_ok nmX0 hown hK.1 hP (hDa _) hS 0 rfl rfl 7 (by decide) (htb _ wmt1_44) (fun _ h9 => h9) rfl (by decide +kernel) rfl rfl (Nat.le_of_ble_eq_true rfl) dX0_pick_10 (fun H locs hP _ hS => ?_)
  have hP : va_P (dC, dI) vwCl (zA k a (sI (sA z 5 (u_2.2.2.1 0)) 0 0)) H := hP
  refine lv_iconst (v := 0) hx hb dX0_pick_13 (by decide) ?_
  refine lv_istore_n (lv' := [(3, .int 0), (0, .ref (a 0)), (1, .int pe), (2, .int dy)]) hx hb dX0_pick_14 rfl hl (by decide) rfl (fun ls hl => ?_)
  obtain ⟨i, ei⟩ : ∃ x : Int32, 0 = x := ⟨_, rfl⟩
  obtain ⟨z1, ez1⟩ : ∃ x : ZS, (sI (sA z 5 (u_2.2.2.1 0)) 0 0) = x := ⟨_, rfl⟩
  have hv15 : (0 ≤ i.toInt ∧ i.toInt ≤ (z1.1 1).toInt) ∧ (P6 (z1.1 1) (z1.2.2.1 0) (z1.2.2.1 1)) ∧ (PK (z1.1 0) (z1.2.2.1 5) (z1.2.2.1 6) (z1.1 1)) ∧ (z1.1 1 = z.1 1 ∧ z1.2.2.1 4 = z.2.2.1 4) := by subst ei ez1; exact ⟨⟨by decide, by have q : (0 : Int32).toInt = 0 := (by decide); rw [q]; exact hP6.1⟩, hP6, (PK_0 (show (0 : Int32).toInt = 0 by decide) h_4), ⟨rfl, rfl⟩⟩
  replace hl : lv_has ls 5 [(3, .int i), (0, .ref (a 0)), (1, .int pe), (2, .int dy)] := by subst ei ez1; exact hl
  replace hP : va_P (dC, dI) vwCl (zA k a z1) H := by subst ez1; exact hP
  clear ei ez1
  obtain ⟨mm15, hm15⟩ : ∃ mm : Nat, mm = (120 - i.toInt).toNat := ⟨_, rfl⟩
  refine z_cut2 hP hS hl ?_
  clear hl hP
  intro H locs ls hP hS hl
  induction mm15 using Nat.strongRecOn generalizing i z1 H locs ls with
  | _ mm15 ih15 =>
    obtain ⟨hi, hA1, hpk, hA9⟩ := hv15
    have hA4 := hA1.2.1
    refine lv_iload_n hx hb dX0_pick_15 rfl (lv_at hl 0 rfl) ?_
    refine lv_aload_n hx hb dX0_pick_16 rfl (lv_at hl 1 rfl) ?_
    refine va_get (D := (dC, dI)) (ci := 0) (v := .int (z1.1 1)) (C := RX0) (T := TX0) (N := 9) hx hb htb inw0 hown hK.1 hP 0 rfl rfl 8 (by decide) (htb _ wmt1_46) (fun _ h9 => h9) rfl dX0_pick_17 ?_
    refine lv_topi (fun x_6 ex_6 => ?_)
    have hx_6 : x_6.toInt = (z1.1 1).toInt := by rw [ex_6]
    refine lv_icmp_ge (tgt := 98) hx hb dX0_pick_20 (by decide) (fun c_7 => ?_) (fun c_7 => ?_)
    · skip
      have hc_7 := zb_le rfl rfl c_7
      exact W.vret hx hb hr (fun t ht hW => ⟨⟨z1, rfl, ⟨hA1, hpk, hA9.1, hA9.2⟩, ⟨by rw [ht]; exact hP, hDa _⟩⟩, hS.F ht⟩) hS.2.2 dX0_pick_98
    · skip
      have hc_7 := zb_nle rfl rfl c_7
      refine lv_aload_n hx hb dX0_pick_23 rfl (lv_at hl 1 rfl) ?_
      refine va_get (D := (dC, dI)) (ci := 0) (v := .ref (a 2)) (C := RX0) (T := TX0) (N := 9) hx hb htb inw0 hown hK.1 hP 0 rfl rfl 1 (by decide) (htb _ wmt1_32) (fun _ h9 => h9) rfl dX0_pick_24 ?_
      refine lv_iload_n hx hb dX0_pick_27 rfl (lv_at hl 0 rfl) ?_
      refine va_iald (D := (dC, dI)) hx hb hK.1 hP 2 0 rfl rfl (z_in (by omega)) dX0_pick_28 ?_
      refine lv_topi (fun x_8 ex_8 => ?_)
      have hdb : 0 ≤ x_8.toInt ∧ x_8.toInt < 4 := by have q := hA1.2.2 i.toNatClampNeg (by rw [z_clamp hi.1]; omega); rw [ex_8]; omega
      refine lv_istore (lv' := [(4, .int x_8), (3, .int i), (0, .ref (a 0)), (1, .int pe), (2, .int dy)]) hx hb dX0_pick_29 hl (by decide) rfl (fun ls hl => ?_)
      refine lv_aload_n hx hb dX0_pick_31 rfl (lv_at hl 2 rfl) ?_
      refine va_get (D := (dC, dI)) (ci := 0) (v := .ref (a 1)) (C := RX0) (T := TX0) (N := 9) hx hb htb inw0 hown hK.1 hP 0 rfl rfl 0 (by decide) (htb _ wmt1_30) (fun _ h9 => h9) rfl dX0_pick_32 ?_
      refine lv_iload_n hx hb dX0_pick_35 rfl (lv_at hl 1 rfl) ?_
      refine va_iald (D := (dC, dI)) hx hb hK.1 hP 1 0 rfl rfl (z_in (by omega)) dX0_pick_36 ?_
      refine lv_topi (fun x_9 ex_9 => ?_)
      refine lv_iload_n hx hb dX0_pick_37 rfl (lv_at hl 3 rfl) ?_
      refine lv_icmp_ne (tgt := 92) hx hb dX0_pick_38 (by decide) (fun c_10 => ?_) (fun c_10 => ?_)
      · skip
        have hc_10 := zb_ne rfl rfl c_10
        obtain ⟨x_11, ex_11⟩ : ∃ y : Int32, y = i + 1 := ⟨_, rfl⟩
        have hx_11 : x_11.toInt = i.toInt + 1 := z_add ex_11 rfl (show (1 : Int32).toInt = 1 by decide) (by omega)
        refine lv_iinc (v := x_11) (lv' := [(3, .int x_11), (4, .int x_8), (0, .ref (a 0)), (1, .int pe), (2, .int dy)]) hx hb dX0_pick_92 hl (k := 1) rfl (by rw [ex_11]; rfl) (by decide) rfl (fun ls hl => ?_)
        refine lv_goto (tgt := 15) hx hb dX0_pick_95 (by decide) ?_
        exact ih15 ((120 - x_11.toInt).toNat) (by omega) x_11 z1 ⟨(show 0 ≤ x_11.toInt ∧ x_11.toInt ≤ ((z1.1 1)).toInt by omega), hA1, hpk, hA9⟩ rfl H locs ls hP hS (lv_sub hl [0, 2, 3, 4] rfl)
      · skip
        have hc_10 := zb_eq rfl rfl c_10
        refine lv_aload_n hx hb dX0_pick_41 rfl (lv_at hl 2 rfl) ?_
        refine lv_iload_n hx hb dX0_pick_42 rfl (lv_at hl 1 rfl) ?_
        refine lv_iload_n hx hb dX0_pick_43 rfl (lv_at hl 4 rfl) ?_
        refine zcA_i (w := (zA k a z1)) (va_runV (As := [.int i, .int dy]) (rest := []) ⟨hx, hb, hml, hown, htb⟩ (c_X0_isKnown l dC dI k a z1 i dy _ (show 0 ≤ i.toInt ∧ i.toInt < 120 by omega)) (cwV 2 htb (gzV wmt3_8 wmt2_123 wmt2_124 wmt1_2 wmt2_125) rfl rfl rfl (by decide +kernel) ⟨Nat.le_of_ble_eq_true rfl, Nat.le_of_ble_eq_true rfl⟩) (zpA_V (ci := 0) (q0 := 0) hK hP (hDa _) rfl rfl) rfl rfl hl.1 rfl (lv_room (Nat.le_of_ble_eq_true rfl)) dX0_pick_44 ⟨Nat.le_of_ble_eq_true rfl, Nat.le_of_ble_eq_true rfl⟩) (hDa _) hS hA (fun r_12 u_13 H locs w_14 hP _ hS => ?_)
        refine lv_if_eq (tgt := 92) hx hb dX0_pick_47 (by decide) (fun c_15 => ?_) (fun c_15 => ?_)
        · skip
          have hc_15 := zb_eq rfl (show (0 : Int32).toInt = 0 by decide) c_15
          obtain ⟨x_16, ex_16⟩ : ∃ y : Int32, y = i + 1 := ⟨_, rfl⟩
          have hx_16 : x_16.toInt = i.toInt + 1 := z_add ex_16 rfl (show (1 : Int32).toInt = 1 by decide) (by omega)
          refine lv_iinc (v := x_16) (lv' := [(3, .int x_16), (4, .int x_8), (0, .ref (a 0)), (1, .int pe), (2, .int dy)]) hx hb dX0_pick_92 hl (k := 1) rfl (by rw [ex_16]; rfl) (by decide) rfl (fun ls hl => ?_)
          refine lv_goto (tgt := 15) hx hb dX0_pick_95 (by decide) ?_
          exact ih15 ((120 - x_16.toInt).toNat) (by omega) x_16 z1 ⟨(show 0 ≤ x_16.toInt ∧ x_16.toInt ≤ ((z1.1 1)).toInt by omega), hA1, hpk, hA9⟩ rfl H locs ls hP hS (lv_sub hl [0, 2, 3, 4] rfl)
        · skip
          have hc_15 := zb_ne rfl (show (0 : Int32).toInt = 0 by decide) c_15
          refine lv_aload_n hx hb dX0_pick_50 rfl (lv_at hl 2 rfl) ?_
          refine va_get (D := (dC, dI)) (ci := 0) (v := .ref (a 6)) (C := RX0) (T := TX0) (N := 9) hx hb htb inw0 hown hK.1 hP 0 rfl rfl 5 (by decide) (htb _ wmt1_40) (fun _ h9 => h9) rfl dX0_pick_51 ?_
          refine lv_iload hx hb dX0_pick_54 (lv_at hl 0 rfl) ?_
          refine va_iald (D := (dC, dI)) hx hb hK.1 hP 6 0 rfl rfl (z_in (by omega)) dX0_pick_56 ?_
          refine lv_topi (fun x_17 ex_17 => ?_)
          refine lv_iconst (v := 2) hx hb dX0_pick_57 (by decide) ?_
          refine lv_icmp_ge (tgt := 92) hx hb dX0_pick_58 (by decide) (fun c_18 => ?_) (fun c_18 => ?_)
          · skip
            have hc_18 := zb_le (show (2 : Int32).toInt = 2 by decide) rfl c_18
            obtain ⟨x_19, ex_19⟩ : ∃ y : Int32, y = i + 1 := ⟨_, rfl⟩
            have hx_19 : x_19.toInt = i.toInt + 1 := z_add ex_19 rfl (show (1 : Int32).toInt = 1 by decide) (by omega)
            refine lv_iinc (v := x_19) (lv' := [(3, .int x_19), (4, .int x_8), (0, .ref (a 0)), (1, .int pe), (2, .int dy)]) hx hb dX0_pick_92 hl (k := 1) rfl (by rw [ex_19]; rfl) (by decide) rfl (fun ls hl => ?_)
            refine lv_goto (tgt := 15) hx hb dX0_pick_95 (by decide) ?_
            exact ih15 ((120 - x_19.toInt).toNat) (by omega) x_19 z1 ⟨(show 0 ≤ x_19.toInt ∧ x_19.toInt ≤ ((z1.1 1)).toInt by omega), hA1, hpk, hA9⟩ rfl H locs ls hP hS (lv_sub hl [0, 2, 3, 4] rfl)
          · skip
            have hc_18 := zb_nle (show (2 : Int32).toInt = 2 by decide) rfl c_18
            refine lv_aload_n hx hb dX0_pick_61 rfl (lv_at hl 2 rfl) ?_
            refine va_get (D := (dC, dI)) (ci := 0) (v := .ref (a 7)) (C := RX0) (T := TX0) (N := 9) hx hb htb inw0 hown hK.1 hP 0 rfl rfl 6 (by decide) (htb _ wmt1_42) (fun _ h9 => h9) rfl dX0_pick_62 ?_
            refine lv_aload_n hx hb dX0_pick_65 rfl (lv_at hl 2 rfl) ?_
            refine va_get (D := (dC, dI)) (ci := 0) (v := .int (z1.1 0)) (C := RX0) (T := TX0) (N := 9) hx hb htb inw0 hown hK.1 hP 0 rfl rfl 7 (by decide) (htb _ wmt1_44) (fun _ h9 => h9) rfl dX0_pick_66 ?_
            refine lv_topi (fun x_20 ex_20 => ?_)
            have hx_20 : x_20.toInt = (z1.1 0).toInt := by rw [ex_20]
            have hps : 0 ≤ x_20.toInt ∧ x_20.toInt < 8 := by have q := PK_lt hpk hdb (by rw [← ex_17]; omega); omega
            refine lv_iload_n hx hb dX0_pick_69 rfl (lv_at hl 1 rfl) ?_
            refine va_iast (D := (dC, dI)) hx hb hK.1 hP (hDa _) hS 7 0 rfl rfl (z_in (by omega)) dX0_pick_70 (fun H locs hP _ hS => ?_)
            obtain ⟨f_21, ef_21⟩ : ∃ x : Nat → Int32, x = upd (z1.2.2.1 6) x_20.toNatClampNeg i := ⟨_, rfl⟩
            have hP : va_P (dC, dI) vwCl (zA k a (sA z1 6 f_21)) H := by rw [ef_21]; exact hP
            refine lv_aload_n hx hb dX0_pick_71 rfl (lv_at hl 2 rfl) ?_
            refine lv_dup hx hb dX0_pick_72 rfl ?_
            refine va_get (D := (dC, dI)) (ci := 0) (v := .int (z1.1 0)) (C := RX0) (T := TX0) (N := 9) hx hb htb inw0 hown hK.1 hP 0 rfl rfl 7 (by decide) (htb _ wmt1_44) (fun _ h9 => h9) rfl dX0_pick_73 ?_
            refine z_top (v2 := .int x_20) (congrArg Value.int ex_20.symm) ?_
            refine lv_iconst (v := 1) hx hb dX0_pick_76 (by decide) ?_
            refine lv_iadd hx hb dX0_pick_77 ?_
            refine lv_topi (fun x_22 ex_22 => ?_)
            refine va_put (D := (dC, dI)) (ci := 0) (v := .int x_22) (ty := .int) (C := RX0) (T := TX0) (N := 9) hx hb htb inw0 tyX0 tyX0_ok nmX0 hown hK.1 hP (hDa _) hS 0 rfl rfl 7 (by decide) (htb _ wmt1_44) (fun _ h9 => h9) rfl (by decide +kernel) rfl rfl (Nat.le_of_ble_eq_true rfl) dX0_pick_78 (fun H locs hP _ hS => ?_)
            have hP : va_P (dC, dI) vwCl (zA k a (sI (sA z1 6 f_21) 0 x_22)) H := hP
            refine lv_aload_n hx hb dX0_pick_81 rfl (lv_at hl 2 rfl) ?_
            refine va_get (D := (dC, dI)) (ci := 0) (v := .ref (a 6)) (C := RX0) (T := TX0) (N := 9) hx hb htb inw0 hown hK.1 hP 0 rfl rfl 5 (by decide) (htb _ wmt1_40) (fun _ h9 => h9) rfl dX0_pick_82 ?_
            refine lv_iload hx hb dX0_pick_85 (lv_at hl 0 rfl) ?_
            refine lv_dup2_11 hx hb dX0_pick_87 rfl rfl ?_
            refine va_iald (D := (dC, dI)) hx hb hK.1 hP 6 0 rfl rfl (z_in (by omega)) dX0_pick_88 ?_
            refine lv_topi (fun x_23 ex_23 => ?_)
            replace ex_23 : x_23 = (z1.2.2.1 5) x_8.toNatClampNeg := ex_23
            refine lv_iconst (v := 1) hx hb dX0_pick_89 (by decide) ?_
            refine lv_iadd hx hb dX0_pick_90 ?_
            refine lv_topi (fun x_24 ex_24 => ?_)
            refine va_iast (D := (dC, dI)) hx hb hK.1 hP (hDa _) hS 6 0 rfl rfl (z_in (by omega)) dX0_pick_91 (fun H locs hP _ hS => ?_)
            obtain ⟨f_25, ef_25⟩ : ∃ x : Nat → Int32, x = upd (z1.2.2.1 5) x_8.toNatClampNeg x_24 := ⟨_, rfl⟩
            have hP : va_P (dC, dI) vwCl (zA k a (sA (sI (sA z1 6 f_21) 0 x_22) 5 f_25)) H := by rw [ef_25]; exact hP
            obtain ⟨x_26, ex_26⟩ : ∃ y : Int32, y = i + 1 := ⟨_, rfl⟩
            have hx_26 : x_26.toInt = i.toInt + 1 := z_add ex_26 rfl (show (1 : Int32).toInt = 1 by decide) (by omega)
            refine lv_iinc (v := x_26) (lv' := [(3, .int x_26), (4, .int x_8), (0, .ref (a 0)), (1, .int pe), (2, .int dy)]) hx hb dX0_pick_92 hl (k := 1) rfl (by rw [ex_26]; rfl) (by decide) rfl (fun ls hl => ?_)
            refine lv_goto (tgt := 15) hx hb dX0_pick_95 (by decide) ?_
            exact ih15 ((120 - x_26.toInt).toNat) (by omega) x_26 (sA (sI (sA z1 6 f_21) 0 x_22) 5 f_25) ⟨(show 0 ≤ x_26.toInt ∧ x_26.toInt ≤ ((z1.1 1)).toInt by omega), hA1, (PK_step hpk hdb ex_17 ex_20 ef_21 ex_22 ex_24 ef_25 (by omega) hi.1 (show i.toInt < (z1.1 1).toInt by omega)), hA9⟩ rfl H locs ls hP hS (lv_sub hl [0, 2, 3, 4] rfl)
