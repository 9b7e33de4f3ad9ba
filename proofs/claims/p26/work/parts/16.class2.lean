set_option maxHeartbeats 4000000 in
set_option maxRecDepth 100000 in
theorem c_X6_likely (l : Launch) (dC : Nat → ClassId) (dI : Nat → Nat → Nat) (k : Nat → ClassId) (q : Nat → Nat) (z : ZS) (g : Int32) (d : Int32) (sz : Nat) (hI : XInv z) : Met l yX6_likely (wz yX6_likely cX6_likely 4 (some .int)) ({ frames := 4, cells := 0, slots := 0, locals := 101 }) (va_Pc [.ref (q 0), .int g, .int d] (zPre dC dI k (zTX k) (zX k q z) sz)) (va_Qi (fun (r : Int32) (u : ZS) => (XInv u) ∧ (trX u = trX z)) (fun u t => zPost dC dI (va_A (zX k q z) sz) (zX k q u) t) (va_A (zX k q z) sz)) 0 0 (va_A (zX k q z) sz) := by
  refine Met.ofW (cc := cX6_likely) (maxL := 4) (ret := (some .int)) (by decide) rfl ?_
  intro p e s m args below meth c s₁ B hml hv
  obtain ⟨rfl, hsz, hP, hK, hD0⟩ := hv
  have hx := B.exec
  have hb := B.bytes
  have hr := B.returns
  have hts := atoms_spec (ws := wz yX6_likely cX6_likely 4 (some .int)) B.pre
  have htb : ∀ w ∈ zw, w.before _ s = true := fun w h => hts w (List.mem_cons_of_mem _ h)
  have hown : s.vm.findClass RX6 = some m.cls := findClass_of_methodNamed B.named
  have hlocks := B.notSynchronized
  clear hts
  subst hsz
  have hD := hD0.self (sz := s.heap.size)
  generalize hAe : va_A (zX k q z) s.heap.size = A at hD ⊢
  have hA : ∀ q : Nat, s.heap.size ≤ q → A q := fun q h => by rw [← hAe]; exact Or.inr h
  have hDa : ∀ z9 : ZS, va_D A (zX k q z9) := fun z9 => va_D_adr (w := zX k q z) rfl hD
  have hl := lv_entry ([.ref (q 0), .int g, .int d]) (n := 4) (Nat.le_of_ble_eq_true rfl)
  rw [lg_entry_eq]
  generalize (lg_sl ([.ref (q 0), .int g, .int d]) ++ List.replicate (4 - (lg_sl ([.ref (q 0), .int g, .int d])).length) Slot.unset).toArray = ls at hl ⊢
  have hl : lv_has ls 4 [(0, .ref (q 0)), (1, .int g), (2, .int d)] := hl
  refine z_start2 (A := A) (w := (zX k q z)) hP (fun H locs hP hS => ?_)
  clear hD0 hAe
  have hT : trX z = trX z := rfl
  refine lv_aload_n hx hb dX6_likely_0 rfl (lv_at hl 0 rfl) ?_
  refine lv_iload_n hx hb dX6_likely_1 rfl (lv_at hl 1 rfl) ?_
  refine lv_iload_n hx hb dX6_likely_2 rfl (lv_at hl 2 rfl) ?_
  refine lv_iconst (v := 0) hx hb dX6_likely_3 (by decide) ?_
  refine zcA_i (w := (zX k q z)) (va_runV (As := [.int g, .int d, .int 0]) (rest := []) ⟨hx, hb, hml, hown, htb⟩ (c_X6_lotsRefusal l dC dI k q z g d 0 _ hI) (cwV 3 htb (gzV wmt2_170 wmt2_172 wmp1_11 wmt1_1 wmt2_173) rfl rfl rfl (by decide +kernel) ⟨Nat.le_of_ble_eq_true rfl, Nat.le_of_ble_eq_true rfl⟩) (zpA_V (ci := 6) (q0 := 0) hK hP (hDa _) rfl rfl) rfl rfl hl.1 rfl (lv_room (Nat.le_of_ble_eq_true rfl)) dX6_likely_4 ⟨Nat.le_of_ble_eq_true rfl, Nat.le_of_ble_eq_true rfl⟩) (hDa _) hS hA (fun r_1 u_2 H locs w_3 hP _ hS => ?_)
  obtain ⟨h_4, h_5, h_6⟩ := w_3
  replace h_4 : XInv u_2 := h_4
  replace h_5 : trX u_2 = trX z := h_5
  replace h_6 : r_1.toInt = 0 → (0 ≤ d.toInt ∧ d.toInt < 4) ∧ (u_2.1 8).toInt ≤ 12 := h_6
  have hI := h_4
  have hT := h_5.trans hT
  have hlr := h_6
  refine lv_istore_n (lv' := [(3, .int r_1), (0, .ref (q 0)), (1, .int g), (2, .int d)]) hx hb dX6_likely_7 rfl hl (by decide) rfl (fun ls hl => ?_)
  refine lv_iload_n hx hb dX6_likely_8 rfl (lv_at hl 0 rfl) ?_
  refine lv_if_eq (tgt := 16) hx hb dX6_likely_9 (by decide) (fun c_8 => ?_) (fun c_8 => ?_)
  · skip
    have hc_8 := zb_eq rfl (show (0 : Int32).toInt = 0 by decide) c_8
    have hlr2 := hlr (by omega)
    refine lv_aload_n hx hb dX6_likely_16 rfl (lv_at hl 1 rfl) ?_
    refine lv_aload_n hx hb dX6_likely_17 rfl (lv_at hl 1 rfl) ?_
    refine va_get (D := (dC, dI)) (ci := 6) (v := .ref (q 1)) (C := RX6) (T := TX6) (N := 12) hx hb htb inw6 hown hK.1 hP 0 rfl rfl 0 (by decide) (htb _ wmt1_170) (fun _ h9 => h9) rfl dX6_likely_18 ?_
    refine lv_iload_n hx hb dX6_likely_21 rfl (lv_at hl 3 rfl) ?_
    refine va_aldq (D := (dC, dI)) hx hb hK.1 hP 1 3 rfl rfl (z_in (by omega)) dX6_likely_22 ?_
    obtain ⟨d_9, ed_9⟩ : ∃ x : Nat, x = d.toNatClampNeg := ⟨_, rfl⟩
    have hd_9 : d_9 < 4 := by rw [ed_9]; exact z_cl4 (by omega)
    refine z_top (v2 := .ref (qD q d_9 0)) (zgD_at2 ed_9 hd_9) ?_
    refine zcA_i (w := (zX k q u_2)) (va_runV (As := [.ref (qD q d_9 0)]) (rest := []) ⟨hx, hb, hml, hown, htb⟩ (c_X6_mostLikely l dC dI k q u_2 d_9 _ hI hd_9 (show ((u_2.1 8)).toInt ≤ 12 by omega)) (cwV 1 htb (gzV wmt2_210 wmt2_212 wmp1_14 wmt1_1 wmt2_213) rfl rfl rfl (by decide +kernel) ⟨Nat.le_of_ble_eq_true rfl, Nat.le_of_ble_eq_true rfl⟩) (zpA_V (ci := 6) (q0 := 0) hK hP (hDa _) rfl rfl) rfl rfl hl.1 rfl (lv_room (Nat.le_of_ble_eq_true rfl)) dX6_likely_23 ⟨Nat.le_of_ble_eq_true rfl, Nat.le_of_ble_eq_true rfl⟩) (hDa _) hS hA (fun r_10 u_11 H locs w_12 hP _ hS => ?_)
    obtain ⟨h_13, h_14, h_15⟩ := w_12
    replace h_13 : XInv u_11 := h_13
    replace h_14 : trX u_11 = trX u_2 := h_14
    replace h_15 : u_11.1 8 = (u_2.1 8) := h_15
    have hI := h_13
    have hT := h_14.trans hT
    exact W.iret (v := r_10) hx hb hr (fun t ht hW => ⟨⟨r_10, u_11, rfl, ⟨hI, hT⟩, ⟨by rw [ht]; exact hP, hDa _⟩⟩, hS.F ht⟩) hS.2.2 dX6_likely_26
  · skip
    have hc_8 := zb_ne rfl (show (0 : Int32).toInt = 0 by decide) c_8
    refine lv_iload_n hx hb dX6_likely_12 rfl (lv_at hl 0 rfl) ?_
    refine lv_goto (tgt := 26) hx hb dX6_likely_13 (by decide) ?_
    exact W.iret (v := r_1) hx hb hr (fun t ht hW => ⟨⟨r_1, u_2, rfl, ⟨hI, hT⟩, ⟨by rw [ht]; exact hP, hDa _⟩⟩, hS.F ht⟩) hS.2.2 dX6_likely_26
set_option maxHeartbeats 4000000 in
set_option maxRecDepth 100000 in
theorem c_X6_ways (l : Launch) (dC : Nat → ClassId) (dI : Nat → Nat → Nat) (k : Nat → ClassId) (q : Nat → Nat) (z : ZS) (g : Int32) (d : Int32) (n : Int32) (sz : Nat) (hI : XInv z) : Met l yX6_ways (wz yX6_ways cX6_ways 5 (some .long)) ({ frames := 3, cells := 0, slots := 0, locals := 74 }) (va_Pc [.ref (q 0), .int g, .int d, .int n] (zPre dC dI k (zTX k) (zX k q z) sz)) (va_Ql (fun (r : Int64) (u : ZS) => (XInv u) ∧ (trX u = trX z)) (fun u t => zPost dC dI (va_A (zX k q z) sz) (zX k q u) t) (va_A (zX k q z) sz)) 0 0 (va_A (zX k q z) sz) := by
  refine Met.ofW (cc := cX6_ways) (maxL := 5) (ret := (some .long)) (by decide) rfl ?_
  intro p e s m args below meth c s₁ B hml hv
  obtain ⟨rfl, hsz, hP, hK, hD0⟩ := hv
  have hx := B.exec
  have hb := B.bytes
  have hr := B.returns
  have hts := atoms_spec (ws := wz yX6_ways cX6_ways 5 (some .long)) B.pre
  have htb : ∀ w ∈ zw, w.before _ s = true := fun w h => hts w (List.mem_cons_of_mem _ h)
  have hown : s.vm.findClass RX6 = some m.cls := findClass_of_methodNamed B.named
  have hlocks := B.notSynchronized
  clear hts
  subst hsz
  have hD := hD0.self (sz := s.heap.size)
  generalize hAe : va_A (zX k q z) s.heap.size = A at hD ⊢
  have hA : ∀ q : Nat, s.heap.size ≤ q → A q := fun q h => by rw [← hAe]; exact Or.inr h
  have hDa : ∀ z9 : ZS, va_D A (zX k q z9) := fun z9 => va_D_adr (w := zX k q z) rfl hD
  have hl := lv_entry ([.ref (q 0), .int g, .int d, .int n]) (n := 5) (Nat.le_of_ble_eq_true rfl)
  rw [lg_entry_eq]
  generalize (lg_sl ([.ref (q 0), .int g, .int d, .int n]) ++ List.replicate (5 - (lg_sl ([.ref (q 0), .int g, .int d, .int n])).length) Slot.unset).toArray = ls at hl ⊢
  have hl : lv_has ls 5 [(0, .ref (q 0)), (1, .int g), (2, .int d), (3, .int n)] := hl
  refine z_start2 (A := A) (w := (zX k q z)) hP (fun H locs hP hS => ?_)
  clear hD0 hAe
  have hT : trX z = trX z := rfl
  refine lv_aload_n hx hb dX6_ways_0 rfl (lv_at hl 0 rfl) ?_
  refine lv_iload_n hx hb dX6_ways_1 rfl (lv_at hl 1 rfl) ?_
  refine lv_iload_n hx hb dX6_ways_2 rfl (lv_at hl 2 rfl) ?_
  refine lv_iload_n hx hb dX6_ways_3 rfl (lv_at hl 3 rfl) ?_
  refine zcA_i (w := (zX k q z)) (va_runV (As := [.int g, .int d, .int n]) (rest := []) ⟨hx, hb, hml, hown, htb⟩ (c_X6_lotsRefusal l dC dI k q z g d n _ hI) (cwV 3 htb (gzV wmt2_170 wmt2_172 wmp1_11 wmt1_1 wmt2_173) rfl rfl rfl (by decide +kernel) ⟨Nat.le_of_ble_eq_true rfl, Nat.le_of_ble_eq_true rfl⟩) (zpA_V (ci := 6) (q0 := 0) hK hP (hDa _) rfl rfl) rfl rfl hl.1 rfl (lv_room (Nat.le_of_ble_eq_true rfl)) dX6_ways_4 ⟨Nat.le_of_ble_eq_true rfl, Nat.le_of_ble_eq_true rfl⟩) (hDa _) hS hA (fun r_1 u_2 H locs w_3 hP _ hS => ?_)
  obtain ⟨h_4, h_5, h_6⟩ := w_3
  replace h_4 : XInv u_2 := h_4
  replace h_5 : trX u_2 = trX z := h_5
  replace h_6 : r_1.toInt = 0 → (0 ≤ d.toInt ∧ d.toInt < 4) ∧ (u_2.1 8).toInt ≤ 12 := h_6
  have hI := h_4
  have hT := h_5.trans hT
  have hlr := h_6
  refine lv_istore (lv' := [(4, .int r_1), (0, .ref (q 0)), (1, .int g), (2, .int d), (3, .int n)]) hx hb dX6_ways_7 hl (by decide) rfl (fun ls hl => ?_)
  refine lv_iload hx hb dX6_ways_9 (lv_at hl 0 rfl) ?_
  refine lv_if_eq (tgt := 22) hx hb dX6_ways_11 (by decide) (fun c_8 => ?_) (fun c_8 => ?_)
  · skip
    have hc_8 := zb_eq rfl (show (0 : Int32).toInt = 0 by decide) c_8
    have hlr2 := hlr (by omega)
    refine lv_aload_n hx hb dX6_ways_22 rfl (lv_at hl 1 rfl) ?_
    refine lv_aload_n hx hb dX6_ways_23 rfl (lv_at hl 1 rfl) ?_
    refine va_get (D := (dC, dI)) (ci := 6) (v := .ref (q 1)) (C := RX6) (T := TX6) (N := 12) hx hb htb inw6 hown hK.1 hP 0 rfl rfl 0 (by decide) (htb _ wmt1_170) (fun _ h9 => h9) rfl dX6_ways_24 ?_
    refine lv_iload_n hx hb dX6_ways_27 rfl (lv_at hl 3 rfl) ?_
    refine va_aldq (D := (dC, dI)) hx hb hK.1 hP 1 3 rfl rfl (z_in (by omega)) dX6_ways_28 ?_
    obtain ⟨d_9, ed_9⟩ : ∃ x : Nat, x = d.toNatClampNeg := ⟨_, rfl⟩
    have hd_9 : d_9 < 4 := by rw [ed_9]; exact z_cl4 (by omega)
    refine z_top (v2 := .ref (qD q d_9 0)) (zgD_at2 ed_9 hd_9) ?_
    refine lv_iload_n hx hb dX6_ways_29 rfl (lv_at hl 4 rfl) ?_
    refine zcA_l (w := (zX k q u_2)) (va_runV (As := [.ref (qD q d_9 0), .int n]) (rest := []) ⟨hx, hb, hml, hown, htb⟩ (c_X6_waysOf l dC dI k q u_2 d_9 n _ hI hd_9) (cwV 2 htb (gzV wmt2_178 wmt2_180 wmp1_12 wmt1_1 wmt2_181) rfl rfl rfl (by decide +kernel) ⟨Nat.le_of_ble_eq_true rfl, Nat.le_of_ble_eq_true rfl⟩) (zpA_V (ci := 6) (q0 := 0) hK hP (hDa _) rfl rfl) rfl rfl hl.1 rfl (lv_room (Nat.le_of_ble_eq_true rfl)) dX6_ways_30 ⟨Nat.le_of_ble_eq_true rfl, Nat.le_of_ble_eq_true rfl⟩) (hDa _) hS hA (fun r_10 u_11 H locs w_12 hP _ hS => ?_)
    obtain ⟨h_13, h_14, h_15⟩ := w_12
    replace h_13 : XInv u_11 := h_13
    replace h_14 : trX u_11 = trX u_2 := h_14
    replace h_15 : u_11.1 8 = (u_2.1 8) := h_15
    have hI := h_13
    have hT := h_14.trans hT
    exact W.lret (v := r_10) hx hb hr (fun t ht hW => ⟨⟨r_10, u_11, rfl, ⟨hI, hT⟩, ⟨by rw [ht]; exact hP, hDa _⟩⟩, hS.F ht⟩) hS.2.2 dX6_ways_33
  · skip
    have hc_8 := zb_ne rfl (show (0 : Int32).toInt = 0 by decide) c_8
    refine lv_iload hx hb dX6_ways_14 (lv_at hl 0 rfl) ?_
    refine zc0_l (w := (zX k q u_2)) (va_runS (As := [.int r_1]) (rest := []) ⟨hx, hb, hml, hown, htb⟩ (c_X6_asLong l dC dI k r_1 _ ) (va_cwS 1 htb (gzS wmt2_51 wmt2_52 wmt1_1 wmt2_53) rfl rfl rfl (by decide +kernel) ⟨Nat.le_of_ble_eq_true rfl, Nat.le_of_ble_eq_true rfl⟩) (zp0_S hK) rfl rfl hl.1 rfl (lv_room (Nat.le_of_ble_eq_true rfl)) dX6_ways_16 ⟨Nat.le_of_ble_eq_true rfl, Nat.le_of_ble_eq_true rfl⟩) hP hS hA (fun r_17 u_18 H locs w_19 hP hS => ?_)
    have h_20 := w_19
    replace h_20 : r_17.toInt = tl r_1 := h_20
    refine lv_goto (tgt := 33) hx hb dX6_ways_19 (by decide) ?_
    exact W.lret (v := r_17) hx hb hr (fun t ht hW => ⟨⟨r_17, u_2, rfl, ⟨hI, hT⟩, ⟨by rw [ht]; exact hP, hDa _⟩⟩, hS.F ht⟩) hS.2.2 dX6_ways_33
set_option maxHeartbeats 4000000 in
set_option maxRecDepth 100000 in
theorem c_X6_span (l : Launch) (dC : Nat → ClassId) (dI : Nat → Nat → Nat) (k : Nat → ClassId) (q : Nat → Nat) (z : ZS) (g : Int32) (d : Int32) (w : Int32) (n : Int32) (sz : Nat) (hI : XInv z) : Met l yX6_span (wz yX6_span cX6_span 13 (some .int)) ({ frames := 4, cells := 0, slots := 0, locals := 101 }) (va_Pc [.ref (q 0), .int g, .int d, .int w, .int n] (zPre dC dI k (zTX k) (zX k q z) sz)) (va_Qi (fun (r : Int32) (u : ZS) => (XInv u) ∧ (trX u = trX z)) (fun u t => zPost dC dI (va_A (zX k q z) sz) (zX k q u) t) (va_A (zX k q z) sz)) 0 0 (va_A (zX k q z) sz) := by
  refine Met.ofW (cc := cX6_span) (maxL := 13) (ret := (some .int)) (by decide) rfl ?_
  intro p e s m args below meth c s₁ B hml hv
  obtain ⟨rfl, hsz, hP, hK, hD0⟩ := hv
  have hx := B.exec
  have hb := B.bytes
  have hr := B.returns
  have hts := atoms_spec (ws := wz yX6_span cX6_span 13 (some .int)) B.pre
  have htb : ∀ w ∈ zw, w.before _ s = true := fun w h => hts w (List.mem_cons_of_mem _ h)
  have hown : s.vm.findClass RX6 = some m.cls := findClass_of_methodNamed B.named
  have hlocks := B.notSynchronized
  clear hts
  subst hsz
  have hD := hD0.self (sz := s.heap.size)
  generalize hAe : va_A (zX k q z) s.heap.size = A at hD ⊢
  have hA : ∀ q : Nat, s.heap.size ≤ q → A q := fun q h => by rw [← hAe]; exact Or.inr h
  have hDa : ∀ z9 : ZS, va_D A (zX k q z9) := fun z9 => va_D_adr (w := zX k q z) rfl hD
  have hl := lv_entry ([.ref (q 0), .int g, .int d, .int w, .int n]) (n := 13) (Nat.le_of_ble_eq_true rfl)
  rw [lg_entry_eq]
  generalize (lg_sl ([.ref (q 0), .int g, .int d, .int w, .int n]) ++ List.replicate (13 - (lg_sl ([.ref (q 0), .int g, .int d, .int w, .int n])).length) Slot.unset).toArray = ls at hl ⊢
  have hl : lv_has ls 13 [(0, .ref (q 0)), (1, .int g), (2, .int d), (3, .int w), (4, .int n)] := hl
  refine z_start2 (A := A) (w := (zX k q z)) hP (fun H locs hP hS => ?_)
  clear hD0 hAe
  have hT : trX z = trX z := rfl
  refine lv_iload_n hx hb dX6_span_0 rfl (lv_at hl 3 rfl) ?_
  refine lv_iconst (v := 1) hx hb dX6_span_1 (by decide) ?_
  refine lv_icmp_lt (tgt := 19) hx hb dX6_span_2 (by decide) (fun c_1 => ?_) (fun c_1 => ?_)
  · skip
    have hc_1 := zb_lt rfl (show (1 : Int32).toInt = 1 by decide) c_1
    refine lv_bipush (v := (-2)) hx hb dX6_span_19 (by decide) ?_
    exact W.iret (v := (-2)) hx hb hr (fun t ht hW => ⟨⟨(-2), z, rfl, ⟨hI, hT⟩, ⟨by rw [ht]; exact hP, hDa _⟩⟩, hS.F ht⟩) hS.2.2 dX6_span_21
  · skip
    have hc_1 := zb_nlt rfl (show (1 : Int32).toInt = 1 by decide) c_1
    refine lv_iload_n hx hb dX6_span_5 rfl (lv_at hl 3 rfl) ?_
    refine lv_bipush (v := 100) hx hb dX6_span_6 (by decide) ?_
    refine lv_icmp_gt (tgt := 19) hx hb dX6_span_8 (by decide) (fun c_2 => ?_) (fun c_2 => ?_)
    · skip
      have hc_2 := zb_lt (show (100 : Int32).toInt = 100 by decide) rfl c_2
      refine lv_bipush (v := (-2)) hx hb dX6_span_19 (by decide) ?_
      exact W.iret (v := (-2)) hx hb hr (fun t ht hW => ⟨⟨(-2), z, rfl, ⟨hI, hT⟩, ⟨by rw [ht]; exact hP, hDa _⟩⟩, hS.F ht⟩) hS.2.2 dX6_span_21
    · skip
      have hc_2 := zb_nlt (show (100 : Int32).toInt = 100 by decide) rfl c_2
      refine lv_iload hx hb dX6_span_11 (lv_at hl 4 rfl) ?_
      refine zc0_i (w := (zX k q z)) (va_runS (As := [.int n]) (rest := []) ⟨hx, hb, hml, hown, htb⟩ (c_X6_isEither l dC dI k n _ ) (va_cwS 1 htb (gzS wmt2_48 wmt2_49 wmt1_1 wmt2_50) rfl rfl rfl (by decide +kernel) ⟨Nat.le_of_ble_eq_true rfl, Nat.le_of_ble_eq_true rfl⟩) (zp0_S hK) rfl rfl hl.1 rfl (lv_room (Nat.le_of_ble_eq_true rfl)) dX6_span_13 ⟨Nat.le_of_ble_eq_true rfl, Nat.le_of_ble_eq_true rfl⟩) hP hS hA (fun r_3 u_4 H locs w_5 hP hS => ?_)
      rcases w_5 with ⟨e_7, h_6⟩ | ⟨e_9, h_8⟩
      · skip
        replace e_7 : r_3 = 1 := e_7
        subst e_7
        replace h_6 : 0 ≤ n.toInt ∧ n.toInt < 2 := h_6
        refine lv_if_ne (tgt := 22) hx hb dX6_span_16 (by decide) (fun c_10 => ?_) (fun c_10 => ?_)
        · skip
          refine lv_aload_n hx hb dX6_span_22 rfl (lv_at hl 0 rfl) ?_
          refine lv_iload_n hx hb dX6_span_23 rfl (lv_at hl 1 rfl) ?_
          refine lv_iload_n hx hb dX6_span_24 rfl (lv_at hl 2 rfl) ?_
          refine lv_iconst (v := 0) hx hb dX6_span_25 (by decide) ?_
          refine zcA_i (w := (zX k q z)) (va_runV (As := [.int g, .int d, .int 0]) (rest := []) ⟨hx, hb, hml, hown, htb⟩ (c_X6_lotsRefusal l dC dI k q z g d 0 _ hI) (cwV 3 htb (gzV wmt2_170 wmt2_172 wmp1_11 wmt1_1 wmt2_173) rfl rfl rfl (by decide +kernel) ⟨Nat.le_of_ble_eq_true rfl, Nat.le_of_ble_eq_true rfl⟩) (zpA_V (ci := 6) (q0 := 0) hK hP (hDa _) rfl rfl) rfl rfl hl.1 rfl (lv_room (Nat.le_of_ble_eq_true rfl)) dX6_span_26 ⟨Nat.le_of_ble_eq_true rfl, Nat.le_of_ble_eq_true rfl⟩) (hDa _) hS hA (fun r_11 u_12 H locs w_13 hP _ hS => ?_)
          obtain ⟨h_14, h_15, h_16⟩ := w_13
          replace h_14 : XInv u_12 := h_14
          replace h_15 : trX u_12 = trX z := h_15
          replace h_16 : r_11.toInt = 0 → (0 ≤ d.toInt ∧ d.toInt < 4) ∧ (u_12.1 8).toInt ≤ 12 := h_16
          have hI := h_14
          have hT := h_15.trans hT
          have hlr := h_16
          refine lv_istore (lv' := [(5, .int r_11), (0, .ref (q 0)), (1, .int g), (2, .int d), (3, .int w), (4, .int n)]) hx hb dX6_span_29 hl (by decide) rfl (fun ls hl => ?_)
          refine lv_iload hx hb dX6_span_31 (lv_at hl 0 rfl) ?_
          refine lv_if_eq (tgt := 39) hx hb dX6_span_33 (by decide) (fun c_18 => ?_) (fun c_18 => ?_)
          · skip
            have hc_18 := zb_eq rfl (show (0 : Int32).toInt = 0 by decide) c_18
            have hlr2 := hlr (by omega)
            refine lv_aload_n hx hb dX6_span_39 rfl (lv_at hl 1 rfl) ?_
            refine va_get (D := (dC, dI)) (ci := 6) (v := .ref (q 1)) (C := RX6) (T := TX6) (N := 12) hx hb htb inw6 hown hK.1 hP 0 rfl rfl 0 (by decide) (htb _ wmt1_170) (fun _ h9 => h9) rfl dX6_span_40 ?_
            refine lv_iload_n hx hb dX6_span_43 rfl (lv_at hl 3 rfl) ?_
            refine va_aldq (D := (dC, dI)) hx hb hK.1 hP 1 3 rfl rfl (z_in (by omega)) dX6_span_44 ?_
            obtain ⟨d_19, ed_19⟩ : ∃ x : Nat, x = d.toNatClampNeg := ⟨_, rfl⟩
            have hd_19 : d_19 < 4 := by rw [ed_19]; exact z_cl4 (by omega)
            refine z_top (v2 := .ref (qD q d_19 0)) (zgD_at2 ed_19 hd_19) ?_
            refine lv_astore (lv' := [(6, .ref (qD q d_19 0)), (5, .int r_11), (0, .ref (q 0)), (1, .int g), (2, .int d), (3, .int w), (4, .int n)]) hx hb dX6_span_45 hl (by decide) rfl (fun ls hl => ?_)
            refine lv_aload_n hx hb dX6_span_47 rfl (lv_at hl 2 rfl) ?_
            refine lv_aload hx hb dX6_span_48 (lv_at hl 0 rfl) ?_
            refine lv_aload_n hx hb dX6_span_50 rfl (lv_at hl 2 rfl) ?_
            refine lv_aload hx hb dX6_span_51 (lv_at hl 0 rfl) ?_
            refine zcA_i (w := (zX k q u_12)) (va_runV (As := [.ref (qD q d_19 0)]) (rest := [.ref (qD q d_19 0), .ref (q 0)]) ⟨hx, hb, hml, hown, htb⟩ (c_X6_mostLikely l dC dI k q u_12 d_19 _ hI hd_19 (show ((u_12.1 8)).toInt ≤ 12 by omega)) (cwV 1 htb (gzV wmt2_210 wmt2_212 wmp1_14 wmt1_1 wmt2_213) rfl rfl rfl (by decide +kernel) ⟨Nat.le_of_ble_eq_true rfl, Nat.le_of_ble_eq_true rfl⟩) (zpA_V (ci := 6) (q0 := 0) hK hP (hDa _) rfl rfl) rfl rfl hl.1 rfl (lv_room (Nat.le_of_ble_eq_true rfl)) dX6_span_53 ⟨Nat.le_of_ble_eq_true rfl, Nat.le_of_ble_eq_true rfl⟩) (hDa _) hS hA (fun r_20 u_21 H locs w_22 hP _ hS => ?_)
            obtain ⟨h_23, h_24, h_25⟩ := w_22
            replace h_23 : XInv u_21 := h_23
            replace h_24 : trX u_21 = trX u_12 := h_24
            replace h_25 : u_21.1 8 = (u_12.1 8) := h_25
            have hI := h_23
            have hT := h_24.trans hT
            have h80 : u_21.1 8 = _ := h_25
            refine zcA_l (w := (zX k q u_21)) (va_runV (As := [.ref (qD q d_19 0), .int r_20]) (rest := []) ⟨hx, hb, hml, hown, htb⟩ (c_X6_waysOf l dC dI k q u_21 d_19 r_20 _ hI hd_19) (cwV 2 htb (gzV wmt2_178 wmt2_180 wmp1_12 wmt1_1 wmt2_181) rfl rfl rfl (by decide +kernel) ⟨Nat.le_of_ble_eq_true rfl, Nat.le_of_ble_eq_true rfl⟩) (zpA_V (ci := 6) (q0 := 0) hK hP (hDa _) rfl rfl) rfl rfl hl.1 rfl (lv_room (Nat.le_of_ble_eq_true rfl)) dX6_span_56 ⟨Nat.le_of_ble_eq_true rfl, Nat.le_of_ble_eq_true rfl⟩) (hDa _) hS hA (fun r_27 u_28 H locs w_29 hP _ hS => ?_)
            obtain ⟨h_30, h_31, h_32⟩ := w_29
            replace h_30 : XInv u_28 := h_30
            replace h_31 : trX u_28 = trX u_21 := h_31
            replace h_32 : u_28.1 8 = (u_21.1 8) := h_32
            have hI := h_30
            have hT := h_31.trans hT
            have h84 : (u_28.1 8).toInt ≤ 12 := by rw [h_32, h80]; omega
            refine lv_iload_n hx hb dX6_span_59 rfl (lv_at hl 5 rfl) ?_
            refine lv_i2l (v := w.toInt64) hx hb dX6_span_60 rfl ?_
            refine lv_topl (fun x_34 ex_34 => ?_)
            have hx_34 : x_34.toInt = w.toInt := by rw [ex_34]; exact Jvm.Kit.i64_of_i32 _
            refine lv_lmul hx hb dX6_span_61 ?_
            refine lv_topl (fun x_35 ex_35 => ?_)
            refine lv_lstore (lv' := [(7, .long x_35), (6, .ref (qD q d_19 0)), (5, .int r_11), (0, .ref (q 0)), (1, .int g), (2, .int d), (3, .int w), (4, .int n)]) hx hb dX6_span_62 hl (by decide) rfl (fun ls hl => ?_)
            refine lv_aload_n hx hb dX6_span_64 rfl (lv_at hl 3 rfl) ?_
            refine va_get (D := (dC, dI)) (ci := 6) (v := .ref (q 12)) (C := RX6) (T := TX6) (N := 12) hx hb htb inw6 hown hK.1 hP 0 rfl rfl 4 (by decide) (htb _ wmt1_174) (fun _ h9 => h9) rfl dX6_span_65 ?_
            refine va_get (D := (dC, dI)) (ci := 4) (v := .int (u_28.1 8)) (C := RX4) (T := TX4) (N := 3) hx hb htb inw4 hown hK.1 hP 12 rfl rfl 1 (by decide) (htb _ wmt1_76) (fun _ h9 => h9) rfl dX6_span_68 ?_
            refine lv_topi (fun x_36 ex_36 => ?_)
            have hx_36 : x_36.toInt = (u_28.1 8).toInt := by rw [ex_36]
            refine lv_istore (lv' := [(9, .int x_36), (7, .long x_35), (6, .ref (qD q d_19 0)), (5, .int r_11), (0, .ref (q 0)), (1, .int g), (2, .int d), (3, .int w), (4, .int n)]) hx hb dX6_span_71 hl (by decide) rfl (fun ls hl => ?_)
            refine lv_iconst (v := (-1)) hx hb dX6_span_73 (by decide) ?_
            refine lv_istore (lv' := [(10, .int (-1)), (9, .int x_36), (7, .long x_35), (6, .ref (qD q d_19 0)), (5, .int r_11), (0, .ref (q 0)), (1, .int g), (2, .int d), (3, .int w), (4, .int n)]) hx hb dX6_span_74 hl (by decide) rfl (fun ls hl => ?_)
            refine lv_iconst (v := 0) hx hb dX6_span_76 (by decide) ?_
            refine lv_istore (lv' := [(11, .int 0), (10, .int (-1)), (9, .int x_36), (7, .long x_35), (6, .ref (qD q d_19 0)), (5, .int r_11), (0, .ref (q 0)), (1, .int g), (2, .int d), (3, .int w), (4, .int n)]) hx hb dX6_span_77 hl (by decide) rfl (fun ls hl => ?_)
            obtain ⟨td, etd⟩ : ∃ x : Int32, (-1) = x := ⟨_, rfl⟩
            obtain ⟨i, ei⟩ : ∃ x : Int32, 0 = x := ⟨_, rfl⟩
            obtain ⟨z1, ez1⟩ : ∃ x : ZS, u_28 = x := ⟨_, rfl⟩
            have hv79 : (0 ≤ i.toInt ∧ i.toInt ≤ 13) ∧ (XInv z1) ∧ (trX z1 = trX z) := by subst etd ei ez1; exact ⟨(by decide), hI, hT⟩
            replace hl : lv_has ls 13 [(11, .int i), (10, .int td), (9, .int x_36), (7, .long x_35), (6, .ref (qD q d_19 0)), (5, .int r_11), (0, .ref (q 0)), (1, .int g), (2, .int d), (3, .int w), (4, .int n)] := by subst etd ei ez1; exact hl
            replace hP : va_P (dC, dI) vwCl (zX k q z1) H := by subst ez1; exact hP
            clear etd ei ez1
            obtain ⟨mm79, hm79⟩ : ∃ mm : Nat, mm = (13 - i.toInt).toNat := ⟨_, rfl⟩
            refine z_cut2 hP hS hl ?_
            clear hl hP
            intro H locs ls hP hS hl
            induction mm79 using Nat.strongRecOn generalizing td i z1 H locs ls with
            | _ mm79 ih79 =>
              obtain ⟨hi, hI1, hT1⟩ := hv79
              have hI := hI1
              have hT := hT1
              refine lv_iload hx hb dX6_span_79 (lv_at hl 0 rfl) ?_
              refine lv_iload hx hb dX6_span_81 (lv_at hl 2 rfl) ?_
              refine lv_icmp_gt (tgt := 137) hx hb dX6_span_83 (by decide) (fun c_37 => ?_) (fun c_37 => ?_)
              · skip
                have hc_37 := zb_lt rfl rfl c_37
                refine lv_iload hx hb dX6_span_137 (lv_at hl 1 rfl) ?_
                exact W.iret (v := td) hx hb hr (fun t ht hW => ⟨⟨td, z1, rfl, ⟨hI, hT⟩, ⟨by rw [ht]; exact hP, hDa _⟩⟩, hS.F ht⟩) hS.2.2 dX6_span_139
              · skip
                have hc_37 := zb_nlt rfl rfl c_37
                refine lv_iload hx hb dX6_span_86 (lv_at hl 1 rfl) ?_
                refine lv_iconst (v := (-1)) hx hb dX6_span_88 (by decide) ?_
                refine lv_icmp_ne (tgt := 137) hx hb dX6_span_89 (by decide) (fun c_38 => ?_) (fun c_38 => ?_)
                · skip
                  have hc_38 := zb_ne rfl (show ((-1) : Int32).toInt = (-1) by decide) c_38
                  refine lv_iload hx hb dX6_span_137 (lv_at hl 1 rfl) ?_
                  exact W.iret (v := td) hx hb hr (fun t ht hW => ⟨⟨td, z1, rfl, ⟨hI, hT⟩, ⟨by rw [ht]; exact hP, hDa _⟩⟩, hS.F ht⟩) hS.2.2 dX6_span_139
                · skip
                  have hc_38 := zb_eq rfl (show ((-1) : Int32).toInt = (-1) by decide) c_38
                  refine lv_iload hx hb dX6_span_92 (lv_at hl 10 rfl) ?_
                  refine lv_if_ne (tgt := 102) hx hb dX6_span_94 (by decide) (fun c_39 => ?_) (fun c_39 => ?_)
                  · skip
                    have hc_39 := zb_ne rfl (show (0 : Int32).toInt = 0 by decide) c_39
                    refine lv_iload hx hb dX6_span_102 (lv_at hl 2 rfl) ?_
                    refine lv_iload hx hb dX6_span_104 (lv_at hl 0 rfl) ?_
                    refine lv_isub hx hb dX6_span_106 ?_
                    refine lv_topi (fun x_40 ex_40 => ?_)
                    refine lv_istore (lv' := [(12, .int x_40), (11, .int i), (10, .int td), (9, .int x_36), (7, .long x_35), (6, .ref (qD q d_19 0)), (5, .int r_11), (0, .ref (q 0)), (1, .int g), (2, .int d), (3, .int w), (4, .int n)]) hx hb dX6_span_107 hl (by decide) rfl (fun ls hl => ?_)
                    refine lv_aload_n hx hb dX6_span_109 rfl (lv_at hl 7 rfl) ?_
                    refine lv_aload hx hb dX6_span_110 (lv_at hl 5 rfl) ?_
                    refine lv_iload hx hb dX6_span_112 (lv_at hl 0 rfl) ?_
                    refine zcA_l (w := (zX k q z1)) (va_runV (As := [.ref (qD q d_19 0), .int x_40]) (rest := []) ⟨hx, hb, hml, hown, htb⟩ (c_X6_waysOf l dC dI k q z1 d_19 x_40 _ hI hd_19) (cwV 2 htb (gzV wmt2_178 wmt2_180 wmp1_12 wmt1_1 wmt2_181) rfl rfl rfl (by decide +kernel) ⟨Nat.le_of_ble_eq_true rfl, Nat.le_of_ble_eq_true rfl⟩) (zpA_V (ci := 6) (q0 := 0) hK hP (hDa _) rfl rfl) rfl rfl hl.1 rfl (lv_room (Nat.le_of_ble_eq_true rfl)) dX6_span_114 ⟨Nat.le_of_ble_eq_true rfl, Nat.le_of_ble_eq_true rfl⟩) (hDa _) hS hA (fun r_41 u_42 H locs w_43 hP _ hS => ?_)
                    obtain ⟨h_44, h_45, h_46⟩ := w_43
                    replace h_44 : XInv u_42 := h_44
                    replace h_45 : trX u_42 = trX z1 := h_45
                    replace h_46 : u_42.1 8 = (z1.1 8) := h_46
                    have hI := h_44
                    have hT := h_45.trans hT
                    refine lv_ldc2 (v := 100) hx hb hown (htb _ wmt2_218) dX6_span_117 ?_
                    refine lv_lmul hx hb dX6_span_120 ?_
                    refine lv_topl (fun x_48 ex_48 => ?_)
                    refine lv_lload hx hb dX6_span_121 (lv_at hl 4 rfl) ?_
                    refine z_lcmp hx hb dX6_span_123 ?_
                    refine lv_if_lt (tgt := 131) hx hb dX6_span_124 (by decide) (fun c_49 => ?_) (fun c_49 => ?_)
                    · skip
                      have hc_49 := zl_lt rfl rfl c_49
                      obtain ⟨x_50, ex_50⟩ : ∃ y : Int32, y = i + 1 := ⟨_, rfl⟩
                      have hx_50 : x_50.toInt = i.toInt + 1 := z_add ex_50 rfl (show (1 : Int32).toInt = 1 by decide) (by omega)
                      refine lv_iinc (v := x_50) (lv' := [(11, .int x_50), (12, .int x_40), (10, .int td), (9, .int x_36), (7, .long x_35), (6, .ref (qD q d_19 0)), (5, .int r_11), (0, .ref (q 0)), (1, .int g), (2, .int d), (3, .int w), (4, .int n)]) hx hb dX6_span_131 hl (k := 1) rfl (by rw [ex_50]; rfl) (by decide) rfl (fun ls hl => ?_)
                      refine lv_goto (tgt := 79) hx hb dX6_span_134 (by decide) ?_
                      exact ih79 ((13 - x_50.toInt).toNat) (by omega) td x_50 u_42 ⟨(show 0 ≤ x_50.toInt ∧ x_50.toInt ≤ 13 by omega), hI, hT⟩ rfl H locs ls hP hS (lv_sub hl [0, 2, 3, 4, 5, 6, 7, 8, 9, 10, 11] rfl)
                    · skip
                      have hc_49 := zl_nlt rfl rfl c_49
                      refine lv_iload hx hb dX6_span_127 (lv_at hl 0 rfl) ?_
                      refine lv_istore (lv' := [(10, .int x_40), (12, .int x_40), (11, .int i), (9, .int x_36), (7, .long x_35), (6, .ref (qD q d_19 0)), (5, .int r_11), (0, .ref (q 0)), (1, .int g), (2, .int d), (3, .int w), (4, .int n)]) hx hb dX6_span_129 hl (by decide) rfl (fun ls hl => ?_)
                      obtain ⟨x_51, ex_51⟩ : ∃ y : Int32, y = i + 1 := ⟨_, rfl⟩
                      have hx_51 : x_51.toInt = i.toInt + 1 := z_add ex_51 rfl (show (1 : Int32).toInt = 1 by decide) (by omega)
                      refine lv_iinc (v := x_51) (lv' := [(11, .int x_51), (10, .int x_40), (12, .int x_40), (9, .int x_36), (7, .long x_35), (6, .ref (qD q d_19 0)), (5, .int r_11), (0, .ref (q 0)), (1, .int g), (2, .int d), (3, .int w), (4, .int n)]) hx hb dX6_span_131 hl (k := 2) rfl (by rw [ex_51]; rfl) (by decide) rfl (fun ls hl => ?_)
                      refine lv_goto (tgt := 79) hx hb dX6_span_134 (by decide) ?_
                      exact ih79 ((13 - x_51.toInt).toNat) (by omega) x_40 x_51 u_42 ⟨(show 0 ≤ x_51.toInt ∧ x_51.toInt ≤ 13 by omega), hI, hT⟩ rfl H locs ls hP hS (lv_sub hl [0, 1, 3, 4, 5, 6, 7, 8, 9, 10, 11] rfl)
                  · skip
                    have hc_39 := zb_eq rfl (show (0 : Int32).toInt = 0 by decide) c_39
                    refine lv_iload hx hb dX6_span_97 (lv_at hl 0 rfl) ?_
                    refine lv_goto (tgt := 107) hx hb dX6_span_99 (by decide) ?_
                    refine lv_istore (lv' := [(12, .int i), (11, .int i), (10, .int td), (9, .int x_36), (7, .long x_35), (6, .ref (qD q d_19 0)), (5, .int r_11), (0, .ref (q 0)), (1, .int g), (2, .int d), (3, .int w), (4, .int n)]) hx hb dX6_span_107 hl (by decide) rfl (fun ls hl => ?_)
                    refine lv_aload_n hx hb dX6_span_109 rfl (lv_at hl 7 rfl) ?_
                    refine lv_aload hx hb dX6_span_110 (lv_at hl 5 rfl) ?_
                    refine lv_iload hx hb dX6_span_112 (lv_at hl 0 rfl) ?_
                    refine zcA_l (w := (zX k q z1)) (va_runV (As := [.ref (qD q d_19 0), .int i]) (rest := []) ⟨hx, hb, hml, hown, htb⟩ (c_X6_waysOf l dC dI k q z1 d_19 i _ hI hd_19) (cwV 2 htb (gzV wmt2_178 wmt2_180 wmp1_12 wmt1_1 wmt2_181) rfl rfl rfl (by decide +kernel) ⟨Nat.le_of_ble_eq_true rfl, Nat.le_of_ble_eq_true rfl⟩) (zpA_V (ci := 6) (q0 := 0) hK hP (hDa _) rfl rfl) rfl rfl hl.1 rfl (lv_room (Nat.le_of_ble_eq_true rfl)) dX6_span_114 ⟨Nat.le_of_ble_eq_true rfl, Nat.le_of_ble_eq_true rfl⟩) (hDa _) hS hA (fun r_52 u_53 H locs w_54 hP _ hS => ?_)
                    obtain ⟨h_55, h_56, h_57⟩ := w_54
                    replace h_55 : XInv u_53 := h_55
                    replace h_56 : trX u_53 = trX z1 := h_56
                    replace h_57 : u_53.1 8 = (z1.1 8) := h_57
                    have hI := h_55
                    have hT := h_56.trans hT
                    refine lv_ldc2 (v := 100) hx hb hown (htb _ wmt2_218) dX6_span_117 ?_
                    refine lv_lmul hx hb dX6_span_120 ?_
                    refine lv_topl (fun x_59 ex_59 => ?_)
                    refine lv_lload hx hb dX6_span_121 (lv_at hl 4 rfl) ?_
                    refine z_lcmp hx hb dX6_span_123 ?_
                    refine lv_if_lt (tgt := 131) hx hb dX6_span_124 (by decide) (fun c_60 => ?_) (fun c_60 => ?_)
                    · skip
                      have hc_60 := zl_lt rfl rfl c_60
                      obtain ⟨x_61, ex_61⟩ : ∃ y : Int32, y = i + 1 := ⟨_, rfl⟩
                      have hx_61 : x_61.toInt = i.toInt + 1 := z_add ex_61 rfl (show (1 : Int32).toInt = 1 by decide) (by omega)
                      refine lv_iinc (v := x_61) (lv' := [(11, .int x_61), (12, .int i), (10, .int td), (9, .int x_36), (7, .long x_35), (6, .ref (qD q d_19 0)), (5, .int r_11), (0, .ref (q 0)), (1, .int g), (2, .int d), (3, .int w), (4, .int n)]) hx hb dX6_span_131 hl (k := 1) rfl (by rw [ex_61]; rfl) (by decide) rfl (fun ls hl => ?_)
                      refine lv_goto (tgt := 79) hx hb dX6_span_134 (by decide) ?_
                      exact ih79 ((13 - x_61.toInt).toNat) (by omega) td x_61 u_53 ⟨(show 0 ≤ x_61.toInt ∧ x_61.toInt ≤ 13 by omega), hI, hT⟩ rfl H locs ls hP hS (lv_sub hl [0, 2, 3, 4, 5, 6, 7, 8, 9, 10, 11] rfl)
                    · skip
                      have hc_60 := zl_nlt rfl rfl c_60
                      refine lv_iload hx hb dX6_span_127 (lv_at hl 0 rfl) ?_
                      refine lv_istore (lv' := [(10, .int i), (12, .int i), (11, .int i), (9, .int x_36), (7, .long x_35), (6, .ref (qD q d_19 0)), (5, .int r_11), (0, .ref (q 0)), (1, .int g), (2, .int d), (3, .int w), (4, .int n)]) hx hb dX6_span_129 hl (by decide) rfl (fun ls hl => ?_)
                      obtain ⟨x_62, ex_62⟩ : ∃ y : Int32, y = i + 1 := ⟨_, rfl⟩
                      have hx_62 : x_62.toInt = i.toInt + 1 := z_add ex_62 rfl (show (1 : Int32).toInt = 1 by decide) (by omega)
                      refine lv_iinc (v := x_62) (lv' := [(11, .int x_62), (10, .int i), (12, .int i), (9, .int x_36), (7, .long x_35), (6, .ref (qD q d_19 0)), (5, .int r_11), (0, .ref (q 0)), (1, .int g), (2, .int d), (3, .int w), (4, .int n)]) hx hb dX6_span_131 hl (k := 2) rfl (by rw [ex_62]; rfl) (by decide) rfl (fun ls hl => ?_)
                      refine lv_goto (tgt := 79) hx hb dX6_span_134 (by decide) ?_
                      exact ih79 ((13 - x_62.toInt).toNat) (by omega) i x_62 u_53 ⟨(show 0 ≤ x_62.toInt ∧ x_62.toInt ≤ 13 by omega), hI, hT⟩ rfl H locs ls hP hS (lv_sub hl [0, 1, 3, 4, 5, 6, 7, 8, 9, 10, 11] rfl)
          · skip
            have hc_18 := zb_ne rfl (show (0 : Int32).toInt = 0 by decide) c_18
            refine lv_iload hx hb dX6_span_36 (lv_at hl 0 rfl) ?_
            exact W.iret (v := r_11) hx hb hr (fun t ht hW => ⟨⟨r_11, u_12, rfl, ⟨hI, hT⟩, ⟨by rw [ht]; exact hP, hDa _⟩⟩, hS.F ht⟩) hS.2.2 dX6_span_38
        · skip
          exact absurd c_10 (by decide)
      · skip
        replace e_9 : r_3 = 0 := e_9
        subst e_9
        replace h_8 : ¬ (0 ≤ n.toInt ∧ n.toInt < 2) := h_8
        refine lv_if_ne (tgt := 22) hx hb dX6_span_16 (by decide) (fun c_63 => ?_) (fun c_63 => ?_)
        · skip
          exact absurd c_63 (by decide)
        · skip
          refine lv_bipush (v := (-2)) hx hb dX6_span_19 (by decide) ?_
          exact W.iret (v := (-2)) hx hb hr (fun t ht hW => ⟨⟨(-2), z, rfl, ⟨hI, hT⟩, ⟨by rw [ht]; exact hP, hDa _⟩⟩, hS.F ht⟩) hS.2.2 dX6_span_21
set_option maxHeartbeats 4000000 in
set_option maxRecDepth 100000 in
theorem c_X6_atLeast (l : Launch) (dC : Nat → ClassId) (dI : Nat → Nat → Nat) (k : Nat → ClassId) (q : Nat → Nat) (z : ZS) (g : Int32) (d : Int32) (n : Int32) (sz : Nat) (hI : XInv z) : Met l yX6_atLeast (wz yX6_atLeast cX6_atLeast 5 (some .int)) ({ frames := 3, cells := 0, slots := 0, locals := 72 }) (va_Pc [.ref (q 0), .int g, .int d, .int n] (zPre dC dI k (zTX k) (zX k q z) sz)) (va_Qi (fun (r : Int32) (u : ZS) => (XInv u) ∧ (trX u = trX z)) (fun u t => zPost dC dI (va_A (zX k q z) sz) (zX k q u) t) (va_A (zX k q z) sz)) 0 0 (va_A (zX k q z) sz) := by
  refine Met.ofW (cc := cX6_atLeast) (maxL := 5) (ret := (some .int)) (by decide) rfl ?_
  intro p e s m args below meth c s₁ B hml hv
  obtain ⟨rfl, hsz, hP, hK, hD0⟩ := hv
  have hx := B.exec
  have hb := B.bytes
  have hr := B.returns
  have hts := atoms_spec (ws := wz yX6_atLeast cX6_atLeast 5 (some .int)) B.pre
  have htb : ∀ w ∈ zw, w.before _ s = true := fun w h => hts w (List.mem_cons_of_mem _ h)
  have hown : s.vm.findClass RX6 = some m.cls := findClass_of_methodNamed B.named
  have hlocks := B.notSynchronized
  clear hts
  subst hsz
  have hD := hD0.self (sz := s.heap.size)
  generalize hAe : va_A (zX k q z) s.heap.size = A at hD ⊢
  have hA : ∀ q : Nat, s.heap.size ≤ q → A q := fun q h => by rw [← hAe]; exact Or.inr h
  have hDa : ∀ z9 : ZS, va_D A (zX k q z9) := fun z9 => va_D_adr (w := zX k q z) rfl hD
  have hl := lv_entry ([.ref (q 0), .int g, .int d, .int n]) (n := 5) (Nat.le_of_ble_eq_true rfl)
  rw [lg_entry_eq]
  generalize (lg_sl ([.ref (q 0), .int g, .int d, .int n]) ++ List.replicate (5 - (lg_sl ([.ref (q 0), .int g, .int d, .int n])).length) Slot.unset).toArray = ls at hl ⊢
  have hl : lv_has ls 5 [(0, .ref (q 0)), (1, .int g), (2, .int d), (3, .int n)] := hl
  refine z_start2 (A := A) (w := (zX k q z)) hP (fun H locs hP hS => ?_)
  clear hD0 hAe
  have hT : trX z = trX z := rfl
  refine lv_aload_n hx hb dX6_atLeast_0 rfl (lv_at hl 0 rfl) ?_
  refine lv_iload_n hx hb dX6_atLeast_1 rfl (lv_at hl 1 rfl) ?_
  refine lv_iload_n hx hb dX6_atLeast_2 rfl (lv_at hl 2 rfl) ?_
  refine lv_iload_n hx hb dX6_atLeast_3 rfl (lv_at hl 3 rfl) ?_
  refine zcA_i (w := (zX k q z)) (va_runV (As := [.int g, .int d, .int n]) (rest := []) ⟨hx, hb, hml, hown, htb⟩ (c_X6_lotsRefusal l dC dI k q z g d n _ hI) (cwV 3 htb (gzV wmt2_170 wmt2_172 wmp1_11 wmt1_1 wmt2_173) rfl rfl rfl (by decide +kernel) ⟨Nat.le_of_ble_eq_true rfl, Nat.le_of_ble_eq_true rfl⟩) (zpA_V (ci := 6) (q0 := 0) hK hP (hDa _) rfl rfl) rfl rfl hl.1 rfl (lv_room (Nat.le_of_ble_eq_true rfl)) dX6_atLeast_4 ⟨Nat.le_of_ble_eq_true rfl, Nat.le_of_ble_eq_true rfl⟩) (hDa _) hS hA (fun r_1 u_2 H locs w_3 hP _ hS => ?_)
  obtain ⟨h_4, h_5, h_6⟩ := w_3
  replace h_4 : XInv u_2 := h_4
  replace h_5 : trX u_2 = trX z := h_5
  replace h_6 : r_1.toInt = 0 → (0 ≤ d.toInt ∧ d.toInt < 4) ∧ (u_2.1 8).toInt ≤ 12 := h_6
  have hI := h_4
  have hT := h_5.trans hT
  have hlr := h_6
  refine lv_istore (lv' := [(4, .int r_1), (0, .ref (q 0)), (1, .int g), (2, .int d), (3, .int n)]) hx hb dX6_atLeast_7 hl (by decide) rfl (fun ls hl => ?_)
  refine lv_iload hx hb dX6_atLeast_9 (lv_at hl 0 rfl) ?_
  refine lv_if_eq (tgt := 17) hx hb dX6_atLeast_11 (by decide) (fun c_8 => ?_) (fun c_8 => ?_)
  · skip
    have hc_8 := zb_eq rfl (show (0 : Int32).toInt = 0 by decide) c_8
    have hlr2 := hlr (by omega)
    refine lv_aload_n hx hb dX6_atLeast_17 rfl (lv_at hl 1 rfl) ?_
    refine va_get (D := (dC, dI)) (ci := 6) (v := .ref (q 13)) (C := RX6) (T := TX6) (N := 12) hx hb htb inw6 hown hK.1 hP 0 rfl rfl 5 (by decide) (htb _ wmt1_175) (fun _ h9 => h9) rfl dX6_atLeast_18 ?_
    refine lv_aload_n hx hb dX6_atLeast_21 rfl (lv_at hl 1 rfl) ?_
    refine va_get (D := (dC, dI)) (ci := 6) (v := .ref (q 1)) (C := RX6) (T := TX6) (N := 12) hx hb htb inw6 hown hK.1 hP 0 rfl rfl 0 (by decide) (htb _ wmt1_170) (fun _ h9 => h9) rfl dX6_atLeast_22 ?_
    refine lv_iload_n hx hb dX6_atLeast_25 rfl (lv_at hl 3 rfl) ?_
    refine va_aldq (D := (dC, dI)) hx hb hK.1 hP 1 3 rfl rfl (z_in (by omega)) dX6_atLeast_26 ?_
    obtain ⟨d_9, ed_9⟩ : ∃ x : Nat, x = d.toNatClampNeg := ⟨_, rfl⟩
    have hd_9 : d_9 < 4 := by rw [ed_9]; exact z_cl4 (by omega)
    refine z_top (v2 := .ref (qD q d_9 0)) (zgD_at2 ed_9 hd_9) ?_
    refine lv_aload_n hx hb dX6_atLeast_27 rfl (lv_at hl 1 rfl) ?_
    refine va_get (D := (dC, dI)) (ci := 6) (v := .ref (q 12)) (C := RX6) (T := TX6) (N := 12) hx hb htb inw6 hown hK.1 hP 0 rfl rfl 4 (by decide) (htb _ wmt1_174) (fun _ h9 => h9) rfl dX6_atLeast_28 ?_
    refine va_get (D := (dC, dI)) (ci := 4) (v := .int (u_2.1 8)) (C := RX4) (T := TX4) (N := 3) hx hb htb inw4 hown hK.1 hP 12 rfl rfl 1 (by decide) (htb _ wmt1_76) (fun _ h9 => h9) rfl dX6_atLeast_31 ?_
    refine lv_topi (fun x_10 ex_10 => ?_)
    have hx_10 : x_10.toInt = (u_2.1 8).toInt := by rw [ex_10]
    refine lv_iload_n hx hb dX6_atLeast_34 rfl (lv_at hl 4 rfl) ?_
    refine zcS_v (w := (zX k q u_2)) (wc := (zE k (qE q d_9) (xE u_2 d_9))) (va_runV (As := [.ref (qD q d_9 0), .int x_10, .int n]) (rest := []) ⟨hx, hb, hml, hown, htb⟩ (c_X3_fall l dC dI k (qE q d_9) (xE u_2 d_9) x_10 n _ ) (cwV 3 htb (gzV wmt2_182 wmt2_183 wmt2_184 wmt1_4 wmt2_185) rfl rfl rfl (by decide +kernel) ⟨Nat.le_of_ble_eq_true rfl, Nat.le_of_ble_eq_true rfl⟩) (zp_V (ci := 3) (q0 := 13) hK hP (hDa _) [13, 14, 16 + 3 * d_9, 17 + 3 * d_9, 18 + 3 * d_9] (zX_EC hd_9) (zX_ndE hd_9) rfl rfl) rfl rfl hl.1 rfl (lv_room (Nat.le_of_ble_eq_true rfl)) dX6_atLeast_35 ⟨Nat.le_of_ble_eq_true rfl, Nat.le_of_ble_eq_true rfl⟩) hP (hDa _) hS hA [13, 14, 16 + 3 * d_9, 17 + 3 * d_9, 18 + 3 * d_9] (zX_EC hd_9) (fun _ => rfl) (fun u_12 H locs w_13 hP _ hS => ?_)
    obtain ⟨f_14, hf_14⟩ := w_13
    subst hf_14
    have hP : va_P (dC, dI) vwCl (zX k q (sL u_2 0 f_14)) H := (zX_Eset hd_9) ▸ hP
    have hP : va_P (dC, dI) vwCl (zX k q (sL u_2 0 f_14)) H := hP
    refine lv_aload_n hx hb dX6_atLeast_38 rfl (lv_at hl 1 rfl) ?_
    refine va_get (D := (dC, dI)) (ci := 6) (v := .ref (q 13)) (C := RX6) (T := TX6) (N := 12) hx hb htb inw6 hown hK.1 hP 0 rfl rfl 5 (by decide) (htb _ wmt1_175) (fun _ h9 => h9) rfl dX6_atLeast_39 ?_
    refine lv_aload_n hx hb dX6_atLeast_42 rfl (lv_at hl 1 rfl) ?_
    refine va_get (D := (dC, dI)) (ci := 6) (v := .ref (q 12)) (C := RX6) (T := TX6) (N := 12) hx hb htb inw6 hown hK.1 hP 0 rfl rfl 4 (by decide) (htb _ wmt1_174) (fun _ h9 => h9) rfl dX6_atLeast_43 ?_
    refine va_get (D := (dC, dI)) (ci := 4) (v := .int (u_2.1 9)) (C := RX4) (T := TX4) (N := 3) hx hb htb inw4 hown hK.1 hP 12 rfl rfl 2 (by decide) (htb _ wmt1_78) (fun _ h9 => h9) rfl dX6_atLeast_46 ?_
    refine lv_topi (fun x_15 ex_15 => ?_)
    have hx_15 : x_15.toInt = (u_2.1 9).toInt := by rw [ex_15]
    refine lv_aload_n hx hb dX6_atLeast_49 rfl (lv_at hl 1 rfl) ?_
    refine va_get (D := (dC, dI)) (ci := 6) (v := .ref (q 12)) (C := RX6) (T := TX6) (N := 12) hx hb htb inw6 hown hK.1 hP 0 rfl rfl 4 (by decide) (htb _ wmt1_174) (fun _ h9 => h9) rfl dX6_atLeast_50 ?_
    refine va_get (D := (dC, dI)) (ci := 4) (v := .int (u_2.1 8)) (C := RX4) (T := TX4) (N := 3) hx hb htb inw4 hown hK.1 hP 12 rfl rfl 1 (by decide) (htb _ wmt1_76) (fun _ h9 => h9) rfl dX6_atLeast_53 ?_
    refine z_top (v2 := .int x_10) (congrArg Value.int ex_10.symm) ?_
    refine zcS_l (w := (zX k q (sL u_2 0 f_14))) (wc := (zL k (qof q 13) (xL (sL u_2 0 f_14)))) (va_runV (As := [.int x_15, .int x_10]) (rest := []) ⟨hx, hb, hml, hown, htb⟩ (c_X3_among l dC dI k (qof q 13) (xL (sL u_2 0 f_14)) x_15 x_10 _ ) (cwV 2 htb (gzV wmt2_199 wmt2_200 wmt2_201 wmt1_4 wmt2_202) rfl rfl rfl (by decide +kernel) ⟨Nat.le_of_ble_eq_true rfl, Nat.le_of_ble_eq_true rfl⟩) (zp_V (ci := 3) (q0 := 13) hK hP (hDa _) [13, 14] rfl (by decide) rfl rfl) rfl rfl hl.1 rfl (lv_room (Nat.le_of_ble_eq_true rfl)) dX6_atLeast_56 ⟨Nat.le_of_ble_eq_true rfl, Nat.le_of_ble_eq_true rfl⟩) hP (hDa _) hS hA [13, 14] rfl (fun _ => rfl) (fun r_16 u_17 H locs w_18 hP _ hS => ?_)
    have hP : va_P (dC, dI) vwCl (zX k q (sL u_2 0 f_14)) H := hP
    refine lv_aload_n hx hb dX6_atLeast_59 rfl (lv_at hl 1 rfl) ?_
    refine va_get (D := (dC, dI)) (ci := 6) (v := .ref (q 13)) (C := RX6) (T := TX6) (N := 12) hx hb htb inw6 hown hK.1 hP 0 rfl rfl 5 (by decide) (htb _ wmt1_175) (fun _ h9 => h9) rfl dX6_atLeast_60 ?_
    refine lv_iconst (v := 0) hx hb dX6_atLeast_63 (by decide) ?_
    refine lv_aload_n hx hb dX6_atLeast_64 rfl (lv_at hl 1 rfl) ?_
    refine va_get (D := (dC, dI)) (ci := 6) (v := .ref (q 12)) (C := RX6) (T := TX6) (N := 12) hx hb htb inw6 hown hK.1 hP 0 rfl rfl 4 (by decide) (htb _ wmt1_174) (fun _ h9 => h9) rfl dX6_atLeast_65 ?_
    refine va_get (D := (dC, dI)) (ci := 4) (v := .int (u_2.1 8)) (C := RX4) (T := TX4) (N := 3) hx hb htb inw4 hown hK.1 hP 12 rfl rfl 1 (by decide) (htb _ wmt1_76) (fun _ h9 => h9) rfl dX6_atLeast_68 ?_
    refine z_top (v2 := .int x_10) (congrArg Value.int ex_10.symm) ?_
    refine zcS_l (w := (zX k q (sL u_2 0 f_14))) (wc := (zL k (qof q 13) (xL (sL u_2 0 f_14)))) (va_runV (As := [.int 0, .int x_10]) (rest := [.long r_16]) ⟨hx, hb, hml, hown, htb⟩ (c_X3_among l dC dI k (qof q 13) (xL (sL u_2 0 f_14)) 0 x_10 _ ) (cwV 2 htb (gzV wmt2_199 wmt2_200 wmt2_201 wmt1_4 wmt2_202) rfl rfl rfl (by decide +kernel) ⟨Nat.le_of_ble_eq_true rfl, Nat.le_of_ble_eq_true rfl⟩) (zp_V (ci := 3) (q0 := 13) hK hP (hDa _) [13, 14] rfl (by decide) rfl rfl) rfl rfl hl.1 rfl (lv_room (Nat.le_of_ble_eq_true rfl)) dX6_atLeast_71 ⟨Nat.le_of_ble_eq_true rfl, Nat.le_of_ble_eq_true rfl⟩) hP (hDa _) hS hA [13, 14] rfl (fun _ => rfl) (fun r_19 u_20 H locs w_21 hP _ hS => ?_)
    have hP : va_P (dC, dI) vwCl (zX k q (sL u_2 0 f_14)) H := hP
    refine zc0_i (w := (zX k q (sL u_2 0 f_14))) (va_runS (As := [.long r_16, .long r_19]) (rest := []) ⟨hx, hb, hml, hown, htb⟩ (c_X6_millionths l dC dI k r_16 r_19 _ ) (va_cwS 2 htb (gzS wmt2_223 wmt2_224 wmt1_1 wmt2_225) rfl rfl rfl (by decide +kernel) ⟨Nat.le_of_ble_eq_true rfl, Nat.le_of_ble_eq_true rfl⟩) (zp0_S hK) rfl rfl hl.1 rfl (lv_room (Nat.le_of_ble_eq_true rfl)) dX6_atLeast_74 ⟨Nat.le_of_ble_eq_true rfl, Nat.le_of_ble_eq_true rfl⟩) hP hS hA (fun r_22 u_23 H locs w_24 hP hS => ?_)
    exact W.iret (v := r_22) hx hb hr (fun t ht hW => ⟨⟨r_22, (sL u_2 0 f_14), rfl, ⟨hI, hT⟩, ⟨by rw [ht]; exact hP, hDa _⟩⟩, hS.F ht⟩) hS.2.2 dX6_atLeast_77
  · skip
    have hc_8 := zb_ne rfl (show (0 : Int32).toInt = 0 by decide) c_8
    refine lv_iload hx hb dX6_atLeast_14 (lv_at hl 0 rfl) ?_
    exact W.iret (v := r_1) hx hb hr (fun t ht hW => ⟨⟨r_1, u_2, rfl, ⟨hI, hT⟩, ⟨by rw [ht]; exact hP, hDa _⟩⟩, hS.F ht⟩) hS.2.2 dX6_atLeast_16
set_option maxHeartbeats 4000000 in
set_option maxRecDepth 100000 in
theorem c_X6_kept (l : Launch) (dC : Nat → ClassId) (dI : Nat → Nat → Nat) (k : Nat → ClassId) (q : Nat → Nat) (z : ZS) (g : Int32) (d : Int32) (sz : Nat) (hI : XInv z) : Met l yX6_kept (wz yX6_kept cX6_kept 5 (some .int)) ({ frames := 3, cells := 0, slots := 0, locals := 73 }) (va_Pc [.ref (q 0), .int g, .int d] (zPre dC dI k (zTX k) (zX k q z) sz)) (va_Qi (fun (r : Int32) (u : ZS) => (XInv u) ∧ (trX u = trX z)) (fun u t => zPost dC dI (va_A (zX k q z) sz) (zX k q u) t) (va_A (zX k q z) sz)) 0 0 (va_A (zX k q z) sz) := by
  refine Met.ofW (cc := cX6_kept) (maxL := 5) (ret := (some .int)) (by decide) rfl ?_
  intro p e s m args below meth c s₁ B hml hv
  obtain ⟨rfl, hsz, hP, hK, hD0⟩ := hv
  have hx := B.exec
  have hb := B.bytes
  have hr := B.returns
  have hts := atoms_spec (ws := wz yX6_kept cX6_kept 5 (some .int)) B.pre
  have htb : ∀ w ∈ zw, w.before _ s = true := fun w h => hts w (List.mem_cons_of_mem _ h)
  have hown : s.vm.findClass RX6 = some m.cls := findClass_of_methodNamed B.named
  have hlocks := B.notSynchronized
  clear hts
  subst hsz
  have hD := hD0.self (sz := s.heap.size)
  generalize hAe : va_A (zX k q z) s.heap.size = A at hD ⊢
  have hA : ∀ q : Nat, s.heap.size ≤ q → A q := fun q h => by rw [← hAe]; exact Or.inr h
  have hDa : ∀ z9 : ZS, va_D A (zX k q z9) := fun z9 => va_D_adr (w := zX k q z) rfl hD
  have hl := lv_entry ([.ref (q 0), .int g, .int d]) (n := 5) (Nat.le_of_ble_eq_true rfl)
  rw [lg_entry_eq]
  generalize (lg_sl ([.ref (q 0), .int g, .int d]) ++ List.replicate (5 - (lg_sl ([.ref (q 0), .int g, .int d])).length) Slot.unset).toArray = ls at hl ⊢
  have hl : lv_has ls 5 [(0, .ref (q 0)), (1, .int g), (2, .int d)] := hl
  refine z_start2 (A := A) (w := (zX k q z)) hP (fun H locs hP hS => ?_)
  clear hD0 hAe
  have hT : trX z = trX z := rfl
  refine lv_aload_n hx hb dX6_kept_0 rfl (lv_at hl 0 rfl) ?_
  refine lv_iload_n hx hb dX6_kept_1 rfl (lv_at hl 1 rfl) ?_
  refine lv_iload_n hx hb dX6_kept_2 rfl (lv_at hl 2 rfl) ?_
  refine lv_iconst (v := 0) hx hb dX6_kept_3 (by decide) ?_
  refine lv_iconst (v := 1) hx hb dX6_kept_4 (by decide) ?_
  refine zcA_i (w := (zX k q z)) (va_runV (As := [.int g, .int d, .int 0, .int 1]) (rest := []) ⟨hx, hb, hml, hown, htb⟩ (c_X6_estimateRefusal l dC dI k q z g d 0 1 _ hI) (cwV 4 htb (gzV wmt2_150 wmt2_152 wmp1_10 wmt1_1 wmt2_153) rfl rfl rfl (by decide +kernel) ⟨Nat.le_of_ble_eq_true rfl, Nat.le_of_ble_eq_true rfl⟩) (zpA_V (ci := 6) (q0 := 0) hK hP (hDa _) rfl rfl) rfl rfl hl.1 rfl (lv_room (Nat.le_of_ble_eq_true rfl)) dX6_kept_5 ⟨Nat.le_of_ble_eq_true rfl, Nat.le_of_ble_eq_true rfl⟩) (hDa _) hS hA (fun r_1 u_2 H locs w_3 hP _ hS => ?_)
  obtain ⟨h_4, h_5, h_6⟩ := w_3
  replace h_4 : XInv u_2 := h_4
  replace h_5 : trX u_2 = trX z := h_5
  replace h_6 : r_1.toInt = 0 → 0 ≤ d.toInt ∧ d.toInt < 4 := h_6
  have hI := h_4
  have hT := h_5.trans hT
  have her := h_6
  refine lv_istore_n (lv' := [(3, .int r_1), (0, .ref (q 0)), (1, .int g), (2, .int d)]) hx hb dX6_kept_8 rfl hl (by decide) rfl (fun ls hl => ?_)
  refine lv_iload_n hx hb dX6_kept_9 rfl (lv_at hl 0 rfl) ?_
  refine lv_if_ne (tgt := 21) hx hb dX6_kept_10 (by decide) (fun c_8 => ?_) (fun c_8 => ?_)
  · skip
    have hc_8 := zb_ne rfl (show (0 : Int32).toInt = 0 by decide) c_8
    refine lv_iload_n hx hb dX6_kept_21 rfl (lv_at hl 0 rfl) ?_
    refine lv_if_eq (tgt := 27) hx hb dX6_kept_22 (by decide) (fun c_9 => ?_) (fun c_9 => ?_)
    · skip
      have hc_9 := zb_eq rfl (show (0 : Int32).toInt = 0 by decide) c_9
      exfalso; omega
    · skip
      have hc_9 := zb_ne rfl (show (0 : Int32).toInt = 0 by decide) c_9
      refine lv_iload_n hx hb dX6_kept_25 rfl (lv_at hl 0 rfl) ?_
      exact W.iret (v := r_1) hx hb hr (fun t ht hW => ⟨⟨r_1, u_2, rfl, ⟨hI, hT⟩, ⟨by rw [ht]; exact hP, hDa _⟩⟩, hS.F ht⟩) hS.2.2 dX6_kept_26
  · skip
    have hc_8 := zb_eq rfl (show (0 : Int32).toInt = 0 by decide) c_8
    have her2 := her (by omega)
    refine lv_aload_n hx hb dX6_kept_13 rfl (lv_at hl 1 rfl) ?_
    refine lv_iload_n hx hb dX6_kept_14 rfl (lv_at hl 2 rfl) ?_
    refine lv_iload_n hx hb dX6_kept_15 rfl (lv_at hl 3 rfl) ?_
    refine lv_iconst (v := 0) hx hb dX6_kept_16 (by decide) ?_
    refine zcA_i (w := (zX k q u_2)) (va_runV (As := [.int g, .int d, .int 0]) (rest := []) ⟨hx, hb, hml, hown, htb⟩ (c_X6_lotsRefusal l dC dI k q u_2 g d 0 _ hI) (cwV 3 htb (gzV wmt2_170 wmt2_172 wmp1_11 wmt1_1 wmt2_173) rfl rfl rfl (by decide +kernel) ⟨Nat.le_of_ble_eq_true rfl, Nat.le_of_ble_eq_true rfl⟩) (zpA_V (ci := 6) (q0 := 0) hK hP (hDa _) rfl rfl) rfl rfl hl.1 rfl (lv_room (Nat.le_of_ble_eq_true rfl)) dX6_kept_17 ⟨Nat.le_of_ble_eq_true rfl, Nat.le_of_ble_eq_true rfl⟩) (hDa _) hS hA (fun r_10 u_11 H locs w_12 hP _ hS => ?_)
    obtain ⟨h_13, h_14, h_15⟩ := w_12
    replace h_13 : XInv u_11 := h_13
    replace h_14 : trX u_11 = trX u_2 := h_14
    replace h_15 : r_10.toInt = 0 → (0 ≤ d.toInt ∧ d.toInt < 4) ∧ (u_11.1 8).toInt ≤ 12 := h_15
    have hI := h_13
    have hT := h_14.trans hT
    have hlr := h_15
    refine lv_istore_n (lv' := [(3, .int r_10), (0, .ref (q 0)), (1, .int g), (2, .int d)]) hx hb dX6_kept_20 rfl hl (by decide) rfl (fun ls hl => ?_)
    refine lv_iload_n hx hb dX6_kept_21 rfl (lv_at hl 0 rfl) ?_
    refine lv_if_eq (tgt := 27) hx hb dX6_kept_22 (by decide) (fun c_17 => ?_) (fun c_17 => ?_)
    · skip
      have hc_17 := zb_eq rfl (show (0 : Int32).toInt = 0 by decide) c_17
      have hlr2 := hlr (by omega)
      refine lv_aload_n hx hb dX6_kept_27 rfl (lv_at hl 1 rfl) ?_
      refine va_get (D := (dC, dI)) (ci := 6) (v := .ref (q 1)) (C := RX6) (T := TX6) (N := 12) hx hb htb inw6 hown hK.1 hP 0 rfl rfl 0 (by decide) (htb _ wmt1_170) (fun _ h9 => h9) rfl dX6_kept_28 ?_
      refine lv_iload_n hx hb dX6_kept_31 rfl (lv_at hl 3 rfl) ?_
      refine va_aldq (D := (dC, dI)) hx hb hK.1 hP 1 3 rfl rfl (z_in (by omega)) dX6_kept_32 ?_
      obtain ⟨d_18, ed_18⟩ : ∃ x : Nat, x = d.toNatClampNeg := ⟨_, rfl⟩
      have hd_18 : d_18 < 4 := by rw [ed_18]; exact z_cl4 (by omega)
      refine z_top (v2 := .ref (qD q d_18 0)) (zgD_at2 ed_18 hd_18) ?_
      refine lv_astore (lv' := [(4, .ref (qD q d_18 0)), (3, .int r_10), (0, .ref (q 0)), (1, .int g), (2, .int d)]) hx hb dX6_kept_33 hl (by decide) rfl (fun ls hl => ?_)
      refine lv_aload_n hx hb dX6_kept_35 rfl (lv_at hl 2 rfl) ?_
      refine va_get (D := (dC, dI)) (ci := 6) (v := .ref (q 13)) (C := RX6) (T := TX6) (N := 12) hx hb htb inw6 hown hK.1 hP 0 rfl rfl 5 (by decide) (htb _ wmt1_175) (fun _ h9 => h9) rfl dX6_kept_36 ?_
      refine lv_aload hx hb dX6_kept_39 (lv_at hl 0 rfl) ?_
      refine lv_aload_n hx hb dX6_kept_41 rfl (lv_at hl 2 rfl) ?_
      refine va_get (D := (dC, dI)) (ci := 6) (v := .ref (q 12)) (C := RX6) (T := TX6) (N := 12) hx hb htb inw6 hown hK.1 hP 0 rfl rfl 4 (by decide) (htb _ wmt1_174) (fun _ h9 => h9) rfl dX6_kept_42 ?_
      refine va_get (D := (dC, dI)) (ci := 4) (v := .int (u_11.1 8)) (C := RX4) (T := TX4) (N := 3) hx hb htb inw4 hown hK.1 hP 12 rfl rfl 1 (by decide) (htb _ wmt1_76) (fun _ h9 => h9) rfl dX6_kept_45 ?_
      refine lv_topi (fun x_19 ex_19 => ?_)
      have hx_19 : x_19.toInt = (u_11.1 8).toInt := by rw [ex_19]
      refine lv_aload hx hb dX6_kept_48 (lv_at hl 0 rfl) ?_
      refine zcS_l (w := (zX k q u_11)) (wc := (zD k (qD q d_18) (xD u_11 d_18))) (va_runV (As := []) (rest := [.int x_19, .ref (qD q d_18 0), .ref (q 13)]) ⟨hx, hb, hml, hown, htb⟩ (c_X1_difference l dC dI k (qD q d_18) (xD u_11 d_18) _ ) (cwV 0 htb (gzV wmt2_158 wmt2_159 wmt2_160 wmt1_6 wmt2_161) rfl rfl rfl (by decide +kernel) ⟨Nat.le_of_ble_eq_true rfl, Nat.le_of_ble_eq_true rfl⟩) (zp_V (ci := 1) (q0 := (16 + 3 * d_18)) hK hP (hDa _) [16 + 3 * d_18, 17 + 3 * d_18, 18 + 3 * d_18] (zX_DC hd_18) (zX_ndD hd_18) rfl (zX_D0 hd_18)) rfl rfl hl.1 rfl (lv_room (Nat.le_of_ble_eq_true rfl)) dX6_kept_50 ⟨Nat.le_of_ble_eq_true rfl, Nat.le_of_ble_eq_true rfl⟩) hP (hDa _) hS hA [16 + 3 * d_18, 17 + 3 * d_18, 18 + 3 * d_18] (zX_DC hd_18) (fun _ => rfl) (fun r_20 u_21 H locs w_22 hP _ hS => ?_)
      have hP : va_P (dC, dI) vwCl (zX k q u_11) H := (zX_Dkeep hd_18) ▸ hP
      refine lv_lconst (v := 0) hx hb dX6_kept_53 (by decide) ?_
      refine z_lcmp hx hb dX6_kept_54 ?_
      refine lv_if_le (tgt := 62) hx hb dX6_kept_55 (by decide) (fun c_23 => ?_) (fun c_23 => ?_)
      · skip
        have hc_23 := zl_le rfl (show (0 : Int64).toInt = 0 by decide) c_23
        refine lv_aload_n hx hb dX6_kept_62 rfl (lv_at hl 2 rfl) ?_
        refine va_get (D := (dC, dI)) (ci := 6) (v := .ref (q 12)) (C := RX6) (T := TX6) (N := 12) hx hb htb inw6 hown hK.1 hP 0 rfl rfl 4 (by decide) (htb _ wmt1_174) (fun _ h9 => h9) rfl dX6_kept_63 ?_
        refine va_get (D := (dC, dI)) (ci := 4) (v := .int (u_11.1 8)) (C := RX4) (T := TX4) (N := 3) hx hb htb inw4 hown hK.1 hP 12 rfl rfl 1 (by decide) (htb _ wmt1_76) (fun _ h9 => h9) rfl dX6_kept_66 ?_
        refine z_top (v2 := .int x_19) (congrArg Value.int ex_19.symm) ?_
        refine zcS_v (w := (zX k q u_11)) (wc := (zE k (qE q d_18) (xE u_11 d_18))) (va_runV (As := [.ref (qD q d_18 0), .int x_19, .int x_19]) (rest := []) ⟨hx, hb, hml, hown, htb⟩ (c_X3_fall l dC dI k (qE q d_18) (xE u_11 d_18) x_19 x_19 _ ) (cwV 3 htb (gzV wmt2_182 wmt2_183 wmt2_184 wmt1_4 wmt2_185) rfl rfl rfl (by decide +kernel) ⟨Nat.le_of_ble_eq_true rfl, Nat.le_of_ble_eq_true rfl⟩) (zp_V (ci := 3) (q0 := 13) hK hP (hDa _) [13, 14, 16 + 3 * d_18, 17 + 3 * d_18, 18 + 3 * d_18] (zX_EC hd_18) (zX_ndE hd_18) rfl rfl) rfl rfl hl.1 rfl (lv_room (Nat.le_of_ble_eq_true rfl)) dX6_kept_69 ⟨Nat.le_of_ble_eq_true rfl, Nat.le_of_ble_eq_true rfl⟩) hP (hDa _) hS hA [13, 14, 16 + 3 * d_18, 17 + 3 * d_18, 18 + 3 * d_18] (zX_EC hd_18) (fun _ => rfl) (fun u_25 H locs w_26 hP _ hS => ?_)
        obtain ⟨f_27, hf_27⟩ := w_26
        subst hf_27
        have hP : va_P (dC, dI) vwCl (zX k q (sL u_11 0 f_27)) H := (zX_Eset hd_18) ▸ hP
        have hP : va_P (dC, dI) vwCl (zX k q (sL u_11 0 f_27)) H := hP
        refine lv_aload_n hx hb dX6_kept_72 rfl (lv_at hl 2 rfl) ?_
        refine va_get (D := (dC, dI)) (ci := 6) (v := .ref (q 13)) (C := RX6) (T := TX6) (N := 12) hx hb htb inw6 hown hK.1 hP 0 rfl rfl 5 (by decide) (htb _ wmt1_175) (fun _ h9 => h9) rfl dX6_kept_73 ?_
        refine lv_iconst (v := 0) hx hb dX6_kept_76 (by decide) ?_
        refine lv_aload_n hx hb dX6_kept_77 rfl (lv_at hl 2 rfl) ?_
        refine va_get (D := (dC, dI)) (ci := 6) (v := .ref (q 12)) (C := RX6) (T := TX6) (N := 12) hx hb htb inw6 hown hK.1 hP 0 rfl rfl 4 (by decide) (htb _ wmt1_174) (fun _ h9 => h9) rfl dX6_kept_78 ?_
        refine va_get (D := (dC, dI)) (ci := 4) (v := .int (u_11.1 9)) (C := RX4) (T := TX4) (N := 3) hx hb htb inw4 hown hK.1 hP 12 rfl rfl 2 (by decide) (htb _ wmt1_78) (fun _ h9 => h9) rfl dX6_kept_81 ?_
        refine lv_topi (fun x_28 ex_28 => ?_)
        have hx_28 : x_28.toInt = (u_11.1 9).toInt := by rw [ex_28]
        refine zcS_l (w := (zX k q (sL u_11 0 f_27))) (wc := (zL k (qof q 13) (xL (sL u_11 0 f_27)))) (va_runV (As := [.int 0, .int x_28]) (rest := []) ⟨hx, hb, hml, hown, htb⟩ (c_X3_among l dC dI k (qof q 13) (xL (sL u_11 0 f_27)) 0 x_28 _ ) (cwV 2 htb (gzV wmt2_199 wmt2_200 wmt2_201 wmt1_4 wmt2_202) rfl rfl rfl (by decide +kernel) ⟨Nat.le_of_ble_eq_true rfl, Nat.le_of_ble_eq_true rfl⟩) (zp_V (ci := 3) (q0 := 13) hK hP (hDa _) [13, 14] rfl (by decide) rfl rfl) rfl rfl hl.1 rfl (lv_room (Nat.le_of_ble_eq_true rfl)) dX6_kept_84 ⟨Nat.le_of_ble_eq_true rfl, Nat.le_of_ble_eq_true rfl⟩) hP (hDa _) hS hA [13, 14] rfl (fun _ => rfl) (fun r_29 u_30 H locs w_31 hP _ hS => ?_)
        have hP : va_P (dC, dI) vwCl (zX k q (sL u_11 0 f_27)) H := hP
        refine lv_aload_n hx hb dX6_kept_87 rfl (lv_at hl 2 rfl) ?_
        refine va_get (D := (dC, dI)) (ci := 6) (v := .ref (q 13)) (C := RX6) (T := TX6) (N := 12) hx hb htb inw6 hown hK.1 hP 0 rfl rfl 5 (by decide) (htb _ wmt1_175) (fun _ h9 => h9) rfl dX6_kept_88 ?_
        refine lv_iconst (v := 0) hx hb dX6_kept_91 (by decide) ?_
        refine lv_aload_n hx hb dX6_kept_92 rfl (lv_at hl 2 rfl) ?_
        refine va_get (D := (dC, dI)) (ci := 6) (v := .ref (q 12)) (C := RX6) (T := TX6) (N := 12) hx hb htb inw6 hown hK.1 hP 0 rfl rfl 4 (by decide) (htb _ wmt1_174) (fun _ h9 => h9) rfl dX6_kept_93 ?_
        refine va_get (D := (dC, dI)) (ci := 4) (v := .int (u_11.1 8)) (C := RX4) (T := TX4) (N := 3) hx hb htb inw4 hown hK.1 hP 12 rfl rfl 1 (by decide) (htb _ wmt1_76) (fun _ h9 => h9) rfl dX6_kept_96 ?_
        refine z_top (v2 := .int x_19) (congrArg Value.int ex_19.symm) ?_
        refine zcS_l (w := (zX k q (sL u_11 0 f_27))) (wc := (zL k (qof q 13) (xL (sL u_11 0 f_27)))) (va_runV (As := [.int 0, .int x_19]) (rest := [.long r_29]) ⟨hx, hb, hml, hown, htb⟩ (c_X3_among l dC dI k (qof q 13) (xL (sL u_11 0 f_27)) 0 x_19 _ ) (cwV 2 htb (gzV wmt2_199 wmt2_200 wmt2_201 wmt1_4 wmt2_202) rfl rfl rfl (by decide +kernel) ⟨Nat.le_of_ble_eq_true rfl, Nat.le_of_ble_eq_true rfl⟩) (zp_V (ci := 3) (q0 := 13) hK hP (hDa _) [13, 14] rfl (by decide) rfl rfl) rfl rfl hl.1 rfl (lv_room (Nat.le_of_ble_eq_true rfl)) dX6_kept_99 ⟨Nat.le_of_ble_eq_true rfl, Nat.le_of_ble_eq_true rfl⟩) hP (hDa _) hS hA [13, 14] rfl (fun _ => rfl) (fun r_32 u_33 H locs w_34 hP _ hS => ?_)
        have hP : va_P (dC, dI) vwCl (zX k q (sL u_11 0 f_27)) H := hP
        refine zc0_i (w := (zX k q (sL u_11 0 f_27))) (va_runS (As := [.long r_29, .long r_32]) (rest := []) ⟨hx, hb, hml, hown, htb⟩ (c_X6_millionths l dC dI k r_29 r_32 _ ) (va_cwS 2 htb (gzS wmt2_223 wmt2_224 wmt1_1 wmt2_225) rfl rfl rfl (by decide +kernel) ⟨Nat.le_of_ble_eq_true rfl, Nat.le_of_ble_eq_true rfl⟩) (zp0_S hK) rfl rfl hl.1 rfl (lv_room (Nat.le_of_ble_eq_true rfl)) dX6_kept_102 ⟨Nat.le_of_ble_eq_true rfl, Nat.le_of_ble_eq_true rfl⟩) hP hS hA (fun r_35 u_36 H locs w_37 hP hS => ?_)
        exact W.iret (v := r_35) hx hb hr (fun t ht hW => ⟨⟨r_35, (sL u_11 0 f_27), rfl, ⟨hI, hT⟩, ⟨by rw [ht]; exact hP, hDa _⟩⟩, hS.F ht⟩) hS.2.2 dX6_kept_105
      · skip
        have hc_23 := zl_nle rfl (show (0 : Int64).toInt = 0 by decide) c_23
        refine lv_iconst (v := 0) hx hb dX6_kept_58 (by decide) ?_
        refine lv_goto (tgt := 69) hx hb dX6_kept_59 (by decide) ?_
        refine zcS_v (w := (zX k q u_11)) (wc := (zE k (qE q d_18) (xE u_11 d_18))) (va_runV (As := [.ref (qD q d_18 0), .int x_19, .int 0]) (rest := []) ⟨hx, hb, hml, hown, htb⟩ (c_X3_fall l dC dI k (qE q d_18) (xE u_11 d_18) x_19 0 _ ) (cwV 3 htb (gzV wmt2_182 wmt2_183 wmt2_184 wmt1_4 wmt2_185) rfl rfl rfl (by decide +kernel) ⟨Nat.le_of_ble_eq_true rfl, Nat.le_of_ble_eq_true rfl⟩) (zp_V (ci := 3) (q0 := 13) hK hP (hDa _) [13, 14, 16 + 3 * d_18, 17 + 3 * d_18, 18 + 3 * d_18] (zX_EC hd_18) (zX_ndE hd_18) rfl rfl) rfl rfl hl.1 rfl (lv_room (Nat.le_of_ble_eq_true rfl)) dX6_kept_69 ⟨Nat.le_of_ble_eq_true rfl, Nat.le_of_ble_eq_true rfl⟩) hP (hDa _) hS hA [13, 14, 16 + 3 * d_18, 17 + 3 * d_18, 18 + 3 * d_18] (zX_EC hd_18) (fun _ => rfl) (fun u_39 H locs w_40 hP _ hS => ?_)
        obtain ⟨f_41, hf_41⟩ := w_40
        subst hf_41
        have hP : va_P (dC, dI) vwCl (zX k q (sL u_11 0 f_41)) H := (zX_Eset hd_18) ▸ hP
        have hP : va_P (dC, dI) vwCl (zX k q (sL u_11 0 f_41)) H := hP
        refine lv_aload_n hx hb dX6_kept_72 rfl (lv_at hl 2 rfl) ?_
        refine va_get (D := (dC, dI)) (ci := 6) (v := .ref (q 13)) (C := RX6) (T := TX6) (N := 12) hx hb htb inw6 hown hK.1 hP 0 rfl rfl 5 (by decide) (htb _ wmt1_175) (fun _ h9 => h9) rfl dX6_kept_73 ?_
        refine lv_iconst (v := 0) hx hb dX6_kept_76 (by decide) ?_
        refine lv_aload_n hx hb dX6_kept_77 rfl (lv_at hl 2 rfl) ?_
        refine va_get (D := (dC, dI)) (ci := 6) (v := .ref (q 12)) (C := RX6) (T := TX6) (N := 12) hx hb htb inw6 hown hK.1 hP 0 rfl rfl 4 (by decide) (htb _ wmt1_174) (fun _ h9 => h9) rfl dX6_kept_78 ?_
        refine va_get (D := (dC, dI)) (ci := 4) (v := .int (u_11.1 9)) (C := RX4) (T := TX4) (N := 3) hx hb htb inw4 hown hK.1 hP 12 rfl rfl 2 (by decide) (htb _ wmt1_78) (fun _ h9 => h9) rfl dX6_kept_81 ?_
        refine lv_topi (fun x_42 ex_42 => ?_)
        have hx_42 : x_42.toInt = (u_11.1 9).toInt := by rw [ex_42]
        refine zcS_l (w := (zX k q (sL u_11 0 f_41))) (wc := (zL k (qof q 13) (xL (sL u_11 0 f_41)))) (va_runV (As := [.int 0, .int x_42]) (rest := []) ⟨hx, hb, hml, hown, htb⟩ (c_X3_among l dC dI k (qof q 13) (xL (sL u_11 0 f_41)) 0 x_42 _ ) (cwV 2 htb (gzV wmt2_199 wmt2_200 wmt2_201 wmt1_4 wmt2_202) rfl rfl rfl (by decide +kernel) ⟨Nat.le_of_ble_eq_true rfl, Nat.le_of_ble_eq_true rfl⟩) (zp_V (ci := 3) (q0 := 13) hK hP (hDa _) [13, 14] rfl (by decide) rfl rfl) rfl rfl hl.1 rfl (lv_room (Nat.le_of_ble_eq_true rfl)) dX6_kept_84 ⟨Nat.le_of_ble_eq_true rfl, Nat.le_of_ble_eq_true rfl⟩) hP (hDa _) hS hA [13, 14] rfl (fun _ => rfl) (fun r_43 u_44 H locs w_45 hP _ hS => ?_)
        have hP : va_P (dC, dI) vwCl (zX k q (sL u_11 0 f_41)) H := hP
        refine lv_aload_n hx hb dX6_kept_87 rfl (lv_at hl 2 rfl) ?_
        refine va_get (D := (dC, dI)) (ci := 6) (v := .ref (q 13)) (C := RX6) (T := TX6) (N := 12) hx hb htb inw6 hown hK.1 hP 0 rfl rfl 5 (by decide) (htb _ wmt1_175) (fun _ h9 => h9) rfl dX6_kept_88 ?_
        refine lv_iconst (v := 0) hx hb dX6_kept_91 (by decide) ?_
        refine lv_aload_n hx hb dX6_kept_92 rfl (lv_at hl 2 rfl) ?_
        refine va_get (D := (dC, dI)) (ci := 6) (v := .ref (q 12)) (C := RX6) (T := TX6) (N := 12) hx hb htb inw6 hown hK.1 hP 0 rfl rfl 4 (by decide) (htb _ wmt1_174) (fun _ h9 => h9) rfl dX6_kept_93 ?_
        refine va_get (D := (dC, dI)) (ci := 4) (v := .int (u_11.1 8)) (C := RX4) (T := TX4) (N := 3) hx hb htb inw4 hown hK.1 hP 12 rfl rfl 1 (by decide) (htb _ wmt1_76) (fun _ h9 => h9) rfl dX6_kept_96 ?_
        refine z_top (v2 := .int x_19) (congrArg Value.int ex_19.symm) ?_
        refine zcS_l (w := (zX k q (sL u_11 0 f_41))) (wc := (zL k (qof q 13) (xL (sL u_11 0 f_41)))) (va_runV (As := [.int 0, .int x_19]) (rest := [.long r_43]) ⟨hx, hb, hml, hown, htb⟩ (c_X3_among l dC dI k (qof q 13) (xL (sL u_11 0 f_41)) 0 x_19 _ ) (cwV 2 htb (gzV wmt2_199 wmt2_200 wmt2_201 wmt1_4 wmt2_202) rfl rfl rfl (by decide +kernel) ⟨Nat.le_of_ble_eq_true rfl, Nat.le_of_ble_eq_true rfl⟩) (zp_V (ci := 3) (q0 := 13) hK hP (hDa _) [13, 14] rfl (by decide) rfl rfl) rfl rfl hl.1 rfl (lv_room (Nat.le_of_ble_eq_true rfl)) dX6_kept_99 ⟨Nat.le_of_ble_eq_true rfl, Nat.le_of_ble_eq_true rfl⟩) hP (hDa _) hS hA [13, 14] rfl (fun _ => rfl) (fun r_46 u_47 H locs w_48 hP _ hS => ?_)
        have hP : va_P (dC, dI) vwCl (zX k q (sL u_11 0 f_41)) H := hP
        refine zc0_i (w := (zX k q (sL u_11 0 f_41))) (va_runS (As := [.long r_43, .long r_46]) (rest := []) ⟨hx, hb, hml, hown, htb⟩ (c_X6_millionths l dC dI k r_43 r_46 _ ) (va_cwS 2 htb (gzS wmt2_223 wmt2_224 wmt1_1 wmt2_225) rfl rfl rfl (by decide +kernel) ⟨Nat.le_of_ble_eq_true rfl, Nat.le_of_ble_eq_true rfl⟩) (zp0_S hK) rfl rfl hl.1 rfl (lv_room (Nat.le_of_ble_eq_true rfl)) dX6_kept_102 ⟨Nat.le_of_ble_eq_true rfl, Nat.le_of_ble_eq_true rfl⟩) hP hS hA (fun r_49 u_50 H locs w_51 hP hS => ?_)
        exact W.iret (v := r_49) hx hb hr (fun t ht hW => ⟨⟨r_49, (sL u_11 0 f_41), rfl, ⟨hI, hT⟩, ⟨by rw [ht]; exact hP, hDa _⟩⟩, hS.F ht⟩) hS.2.2 dX6_kept_105
    · skip
      have hc_17 := zb_ne rfl (show (0 : Int32).toInt = 0 by decide) c_17
      refine lv_iload_n hx hb dX6_kept_25 rfl (lv_at hl 0 rfl) ?_
      exact W.iret (v := r_10) hx hb hr (fun t ht hW => ⟨⟨r_10, u_11, rfl, ⟨hI, hT⟩, ⟨by rw [ht]; exact hP, hDa _⟩⟩, hS.F ht⟩) hS.2.2 dX6_kept_26
set_option maxHeartbeats 4000000 in
set_option maxRecDepth 100000 in
theorem c_X6_share (l : Launch) (dC : Nat → ClassId) (dI : Nat → Nat → Nat) (k : Nat → ClassId) (q : Nat → Nat) (z : ZS) (g : Int32) (d : Int32) (w : Int32) (sz : Nat) (hI : XInv z) : Met l yX6_share (wz yX6_share cX6_share 8 (some .long)) ({ frames := 3, cells := 0, slots := 0, locals := 73 }) (va_Pc [.ref (q 0), .int g, .int d, .int w] (zPre dC dI k (zTX k) (zX k q z) sz)) (va_Ql (fun (r : Int64) (u : ZS) => (XInv u) ∧ (trX u = trX z)) (fun u t => zPost dC dI (va_A (zX k q z) sz) (zX k q u) t) (va_A (zX k q z) sz)) 0 0 (va_A (zX k q z) sz) := by
  refine Met.ofW (cc := cX6_share) (maxL := 8) (ret := (some .long)) (by decide) rfl ?_
  intro p e s m args below meth c s₁ B hml hv
  obtain ⟨rfl, hsz, hP, hK, hD0⟩ := hv
  have hx := B.exec
  have hb := B.bytes
  have hr := B.returns
  have hts := atoms_spec (ws := wz yX6_share cX6_share 8 (some .long)) B.pre
  have htb : ∀ w ∈ zw, w.before _ s = true := fun w h => hts w (List.mem_cons_of_mem _ h)
  have hown : s.vm.findClass RX6 = some m.cls := findClass_of_methodNamed B.named
  have hlocks := B.notSynchronized
  clear hts
  subst hsz
  have hD := hD0.self (sz := s.heap.size)
  generalize hAe : va_A (zX k q z) s.heap.size = A at hD ⊢
  have hA : ∀ q : Nat, s.heap.size ≤ q → A q := fun q h => by rw [← hAe]; exact Or.inr h
  have hDa : ∀ z9 : ZS, va_D A (zX k q z9) := fun z9 => va_D_adr (w := zX k q z) rfl hD
  have hl := lv_entry ([.ref (q 0), .int g, .int d, .int w]) (n := 8) (Nat.le_of_ble_eq_true rfl)
  rw [lg_entry_eq]
  generalize (lg_sl ([.ref (q 0), .int g, .int d, .int w]) ++ List.replicate (8 - (lg_sl ([.ref (q 0), .int g, .int d, .int w])).length) Slot.unset).toArray = ls at hl ⊢
  have hl : lv_has ls 8 [(0, .ref (q 0)), (1, .int g), (2, .int d), (3, .int w)] := hl
  refine z_start2 (A := A) (w := (zX k q z)) hP (fun H locs hP hS => ?_)
  clear hD0 hAe
  have hT : trX z = trX z := rfl
  refine lv_aload_n hx hb dX6_share_0 rfl (lv_at hl 0 rfl) ?_
  refine lv_iload_n hx hb dX6_share_1 rfl (lv_at hl 1 rfl) ?_
  refine lv_iload_n hx hb dX6_share_2 rfl (lv_at hl 2 rfl) ?_
  refine lv_iload_n hx hb dX6_share_3 rfl (lv_at hl 3 rfl) ?_
  refine lv_iconst (v := 1) hx hb dX6_share_4 (by decide) ?_
  refine zcA_i (w := (zX k q z)) (va_runV (As := [.int g, .int d, .int w, .int 1]) (rest := []) ⟨hx, hb, hml, hown, htb⟩ (c_X6_estimateRefusal l dC dI k q z g d w 1 _ hI) (cwV 4 htb (gzV wmt2_150 wmt2_152 wmp1_10 wmt1_1 wmt2_153) rfl rfl rfl (by decide +kernel) ⟨Nat.le_of_ble_eq_true rfl, Nat.le_of_ble_eq_true rfl⟩) (zpA_V (ci := 6) (q0 := 0) hK hP (hDa _) rfl rfl) rfl rfl hl.1 rfl (lv_room (Nat.le_of_ble_eq_true rfl)) dX6_share_5 ⟨Nat.le_of_ble_eq_true rfl, Nat.le_of_ble_eq_true rfl⟩) (hDa _) hS hA (fun r_1 u_2 H locs w_3 hP _ hS => ?_)
  obtain ⟨h_4, h_5, h_6⟩ := w_3
  replace h_4 : XInv u_2 := h_4
  replace h_5 : trX u_2 = trX z := h_5
  replace h_6 : r_1.toInt = 0 → 0 ≤ d.toInt ∧ d.toInt < 4 := h_6
  have hI := h_4
  have hT := h_5.trans hT
  have her := h_6
  refine lv_istore (lv' := [(4, .int r_1), (0, .ref (q 0)), (1, .int g), (2, .int d), (3, .int w)]) hx hb dX6_share_8 hl (by decide) rfl (fun ls hl => ?_)
  refine lv_iload hx hb dX6_share_10 (lv_at hl 0 rfl) ?_
  refine lv_if_eq (tgt := 21) hx hb dX6_share_12 (by decide) (fun c_8 => ?_) (fun c_8 => ?_)
  · skip
    have hc_8 := zb_eq rfl (show (0 : Int32).toInt = 0 by decide) c_8
    have her2 := her (by omega)
    refine lv_aload_n hx hb dX6_share_21 rfl (lv_at hl 1 rfl) ?_
    refine va_get (D := (dC, dI)) (ci := 6) (v := .ref (q 1)) (C := RX6) (T := TX6) (N := 12) hx hb htb inw6 hown hK.1 hP 0 rfl rfl 0 (by decide) (htb _ wmt1_170) (fun _ h9 => h9) rfl dX6_share_22 ?_
    refine lv_iload_n hx hb dX6_share_25 rfl (lv_at hl 3 rfl) ?_
    refine va_aldq (D := (dC, dI)) hx hb hK.1 hP 1 3 rfl rfl (z_in (by omega)) dX6_share_26 ?_
    obtain ⟨d_9, ed_9⟩ : ∃ x : Nat, x = d.toNatClampNeg := ⟨_, rfl⟩
    have hd_9 : d_9 < 4 := by rw [ed_9]; exact z_cl4 (by omega)
    refine z_top (v2 := .ref (qD q d_9 0)) (zgD_at2 ed_9 hd_9) ?_
    refine lv_astore (lv' := [(5, .ref (qD q d_9 0)), (4, .int r_1), (0, .ref (q 0)), (1, .int g), (2, .int d), (3, .int w)]) hx hb dX6_share_27 hl (by decide) rfl (fun ls hl => ?_)
    refine lv_aload_n hx hb dX6_share_29 rfl (lv_at hl 2 rfl) ?_
    refine va_get (D := (dC, dI)) (ci := 6) (v := .ref (q 12)) (C := RX6) (T := TX6) (N := 12) hx hb htb inw6 hown hK.1 hP 0 rfl rfl 4 (by decide) (htb _ wmt1_174) (fun _ h9 => h9) rfl dX6_share_30 ?_
    refine va_get (D := (dC, dI)) (ci := 4) (v := .int (u_2.1 8)) (C := RX4) (T := TX4) (N := 3) hx hb htb inw4 hown hK.1 hP 12 rfl rfl 1 (by decide) (htb _ wmt1_76) (fun _ h9 => h9) rfl dX6_share_33 ?_
    refine lv_topi (fun x_10 ex_10 => ?_)
    have hx_10 : x_10.toInt = (u_2.1 8).toInt := by rw [ex_10]
    refine lv_i2l (v := x_10.toInt64) hx hb dX6_share_36 rfl ?_
    refine lv_topl (fun x_11 ex_11 => ?_)
    have hx_11 : x_11.toInt = x_10.toInt := by rw [ex_11]; exact Jvm.Kit.i64_of_i32 _
    refine lv_lstore (lv' := [(6, .long x_11), (5, .ref (qD q d_9 0)), (4, .int r_1), (0, .ref (q 0)), (1, .int g), (2, .int d), (3, .int w)]) hx hb dX6_share_37 hl (by decide) rfl (fun ls hl => ?_)
    refine lv_aload_n hx hb dX6_share_39 rfl (lv_at hl 3 rfl) ?_
    refine va_get (D := (dC, dI)) (ci := 6) (v := .ref (q 15)) (C := RX6) (T := TX6) (N := 12) hx hb htb inw6 hown hK.1 hP 0 rfl rfl 6 (by decide) (htb _ wmt1_176) (fun _ h9 => h9) rfl dX6_share_40 ?_
    refine lv_aload_n hx hb dX6_share_43 rfl (lv_at hl 3 rfl) ?_
    refine va_get (D := (dC, dI)) (ci := 6) (v := .ref (q 12)) (C := RX6) (T := TX6) (N := 12) hx hb htb inw6 hown hK.1 hP 0 rfl rfl 4 (by decide) (htb _ wmt1_174) (fun _ h9 => h9) rfl dX6_share_44 ?_
    refine va_get (D := (dC, dI)) (ci := 4) (v := .int (u_2.1 9)) (C := RX4) (T := TX4) (N := 3) hx hb htb inw4 hown hK.1 hP 12 rfl rfl 2 (by decide) (htb _ wmt1_78) (fun _ h9 => h9) rfl dX6_share_47 ?_
    refine lv_topi (fun x_12 ex_12 => ?_)
    have hx_12 : x_12.toInt = (u_2.1 9).toInt := by rw [ex_12]
    refine lv_i2l (v := x_12.toInt64) hx hb dX6_share_50 rfl ?_
    refine lv_topl (fun x_13 ex_13 => ?_)
    have hx_13 : x_13.toInt = x_12.toInt := by rw [ex_13]; exact Jvm.Kit.i64_of_i32 _
    refine lv_aload hx hb dX6_share_51 (lv_at hl 1 rfl) ?_
    refine va_get (D := (dC, dI)) (ci := 1) (v := .int (u_2.1 (10 + 6 * d_9 + 5))) (C := RX1) (T := TX1) (N := 9) hx hb htb inw1 hown hK.1 hP (16 + 3 * d_9) (zX_D0 hd_9) rfl 8 (by decide) (htb _ wmt1_132) (fun _ h9 => h9) rfl dX6_share_53 ?_
    refine lv_topi (fun x_14 ex_14 => ?_)
    have hx_14 : x_14.toInt = (u_2.1 (10 + 6 * d_9 + 5)).toInt := by rw [ex_14]
    refine lv_i2l (v := x_14.toInt64) hx hb dX6_share_56 rfl ?_
    refine lv_topl (fun x_15 ex_15 => ?_)
    have hx_15 : x_15.toInt = x_14.toInt := by rw [ex_15]; exact Jvm.Kit.i64_of_i32 _
    refine lv_lmul hx hb dX6_share_57 ?_
    refine lv_topl (fun x_16 ex_16 => ?_)
    refine lv_aload hx hb dX6_share_58 (lv_at hl 1 rfl) ?_
    refine va_get (D := (dC, dI)) (ci := 1) (v := .int (u_2.1 (10 + 6 * d_9 + 4))) (C := RX1) (T := TX1) (N := 9) hx hb htb inw1 hown hK.1 hP (16 + 3 * d_9) (zX_D0 hd_9) rfl 7 (by decide) (htb _ wmt1_129) (fun _ h9 => h9) rfl dX6_share_60 ?_
    refine lv_topi (fun x_17 ex_17 => ?_)
    have hx_17 : x_17.toInt = (u_2.1 (10 + 6 * d_9 + 4)).toInt := by rw [ex_17]
    refine lv_i2l (v := x_17.toInt64) hx hb dX6_share_63 rfl ?_
    refine lv_topl (fun x_18 ex_18 => ?_)
    have hx_18 : x_18.toInt = x_17.toInt := by rw [ex_18]; exact Jvm.Kit.i64_of_i32 _
    refine lv_lload hx hb dX6_share_64 (lv_at hl 0 rfl) ?_
    refine lv_lmul hx hb dX6_share_66 ?_
    refine lv_topl (fun x_19 ex_19 => ?_)
    refine lv_lsub hx hb dX6_share_67 ?_
    refine lv_topl (fun x_20 ex_20 => ?_)
    refine lv_lload hx hb dX6_share_68 (lv_at hl 0 rfl) ?_
    refine lv_aload hx hb dX6_share_70 (lv_at hl 1 rfl) ?_
    refine zcS_l (w := (zX k q u_2)) (wc := (zD k (qD q d_9) (xD u_2 d_9))) (va_runV (As := []) (rest := [.long x_11, .long x_20, .ref (q 15)]) ⟨hx, hb, hml, hown, htb⟩ (c_X1_difference l dC dI k (qD q d_9) (xD u_2 d_9) _ ) (cwV 0 htb (gzV wmt2_158 wmt2_159 wmt2_160 wmt1_6 wmt2_161) rfl rfl rfl (by decide +kernel) ⟨Nat.le_of_ble_eq_true rfl, Nat.le_of_ble_eq_true rfl⟩) (zp_V (ci := 1) (q0 := (16 + 3 * d_9)) hK hP (hDa _) [16 + 3 * d_9, 17 + 3 * d_9, 18 + 3 * d_9] (zX_DC hd_9) (zX_ndD hd_9) rfl (zX_D0 hd_9)) rfl rfl hl.1 rfl (lv_room (Nat.le_of_ble_eq_true rfl)) dX6_share_72 ⟨Nat.le_of_ble_eq_true rfl, Nat.le_of_ble_eq_true rfl⟩) hP (hDa _) hS hA [16 + 3 * d_9, 17 + 3 * d_9, 18 + 3 * d_9] (zX_DC hd_9) (fun _ => rfl) (fun r_21 u_22 H locs w_23 hP _ hS => ?_)
    have hP : va_P (dC, dI) vwCl (zX k q u_2) H := (zX_Dkeep hd_9) ▸ hP
    refine lv_lmul hx hb dX6_share_75 ?_
    refine lv_topl (fun x_24 ex_24 => ?_)
    refine zcS_v (w := (zX k q u_2)) (wc := (zF k (qof q 15) (xF u_2))) (va_runV (As := [.long x_20, .long x_24]) (rest := []) ⟨hx, hb, hml, hown, htb⟩ (c_X2_become l dC dI k (qof q 15) (xF u_2) x_20 x_24 _ ) (cwV 2 htb (gzV wmt2_56 wmt2_57 wmt2_58 wmt1_5 wmt2_59) rfl rfl rfl (by decide +kernel) ⟨Nat.le_of_ble_eq_true rfl, Nat.le_of_ble_eq_true rfl⟩) (zp_V (ci := 2) (q0 := 15) hK hP (hDa _) [15] rfl (by decide) rfl rfl) rfl rfl hl.1 rfl (lv_room (Nat.le_of_ble_eq_true rfl)) dX6_share_76 ⟨Nat.le_of_ble_eq_true rfl, Nat.le_of_ble_eq_true rfl⟩) hP (hDa _) hS hA [15] rfl (fun _ => rfl) (fun u_26 H locs w_27 hP _ hS => ?_)
    have hP : va_P (dC, dI) vwCl (zX k q (sJ (sJ u_2 0 (u_26.2.1 0)) 1 (u_26.2.1 1))) H := hP
    refine lv_aload_n hx hb dX6_share_79 rfl (lv_at hl 3 rfl) ?_
    refine va_get (D := (dC, dI)) (ci := 6) (v := .ref (q 15)) (C := RX6) (T := TX6) (N := 12) hx hb htb inw6 hown hK.1 hP 0 rfl rfl 6 (by decide) (htb _ wmt1_176) (fun _ h9 => h9) rfl dX6_share_80 ?_
    refine lv_iload_n hx hb dX6_share_83 rfl (lv_at hl 6 rfl) ?_
    refine zcS_l (w := (zX k q (sJ (sJ u_2 0 (u_26.2.1 0)) 1 (u_26.2.1 1)))) (wc := (zF k (qof q 15) (xF (sJ (sJ u_2 0 (u_26.2.1 0)) 1 (u_26.2.1 1))))) (va_runV (As := [.int w]) (rest := []) ⟨hx, hb, hml, hown, htb⟩ (c_X2_told l dC dI k (qof q 15) (xF (sJ (sJ u_2 0 (u_26.2.1 0)) 1 (u_26.2.1 1))) w _ ) (cwV 1 htb (gzV wmt2_61 wmt2_62 wmt2_63 wmt1_5 wmt2_64) rfl rfl rfl (by decide +kernel) ⟨Nat.le_of_ble_eq_true rfl, Nat.le_of_ble_eq_true rfl⟩) (zp_V (ci := 2) (q0 := 15) hK hP (hDa _) [15] rfl (by decide) rfl rfl) rfl rfl hl.1 rfl (lv_room (Nat.le_of_ble_eq_true rfl)) dX6_share_84 ⟨Nat.le_of_ble_eq_true rfl, Nat.le_of_ble_eq_true rfl⟩) hP (hDa _) hS hA [15] rfl (fun _ => rfl) (fun r_28 u_29 H locs w_30 hP _ hS => ?_)
    have hP : va_P (dC, dI) vwCl (zX k q (sJ (sJ u_2 0 (u_26.2.1 0)) 1 (u_26.2.1 1))) H := hP
    have h_31 := w_30
    replace h_31 : (w.toInt = 0 → r_28 = (xF (sJ (sJ u_2 0 (u_26.2.1 0)) 1 (u_26.2.1 1))).2.1 0) ∧ (¬ w.toInt = 0 → r_28 = (xF (sJ (sJ u_2 0 (u_26.2.1 0)) 1 (u_26.2.1 1))).2.1 1) := h_31
    exact W.lret (v := r_28) hx hb hr (fun t ht hW => ⟨⟨r_28, (sJ (sJ u_2 0 (u_26.2.1 0)) 1 (u_26.2.1 1)), rfl, ⟨hI, hT⟩, ⟨by rw [ht]; exact hP, hDa _⟩⟩, hS.F ht⟩) hS.2.2 dX6_share_87
  · skip
    have hc_8 := zb_ne rfl (show (0 : Int32).toInt = 0 by decide) c_8
    refine lv_iload hx hb dX6_share_15 (lv_at hl 0 rfl) ?_
    refine zc0_l (w := (zX k q u_2)) (va_runS (As := [.int r_1]) (rest := []) ⟨hx, hb, hml, hown, htb⟩ (c_X6_asLong l dC dI k r_1 _ ) (va_cwS 1 htb (gzS wmt2_51 wmt2_52 wmt1_1 wmt2_53) rfl rfl rfl (by decide +kernel) ⟨Nat.le_of_ble_eq_true rfl, Nat.le_of_ble_eq_true rfl⟩) (zp0_S hK) rfl rfl hl.1 rfl (lv_room (Nat.le_of_ble_eq_true rfl)) dX6_share_17 ⟨Nat.le_of_ble_eq_true rfl, Nat.le_of_ble_eq_true rfl⟩) hP hS hA (fun r_33 u_34 H locs w_35 hP hS => ?_)
    have h_36 := w_35
    replace h_36 : r_33.toInt = tl r_1 := h_36
    exact W.lret (v := r_33) hx hb hr (fun t ht hW => ⟨⟨r_33, u_2, rfl, ⟨hI, hT⟩, ⟨by rw [ht]; exact hP, hDa _⟩⟩, hS.F ht⟩) hS.2.2 dX6_share_20
set_option maxHeartbeats 4000000 in
set_option maxRecDepth 100000 in
theorem c_X6_scatter (l : Launch) (dC : Nat → ClassId) (dI : Nat → Nat → Nat) (k : Nat → ClassId) (q : Nat → Nat) (z : ZS) (g : Int32) (d : Int32) (w : Int32) (sz : Nat) (hI : XInv z) : Met l yX6_scatter (wz yX6_scatter cX6_scatter 14 (some .long)) ({ frames := 3, cells := 0, slots := 0, locals := 73 }) (va_Pc [.ref (q 0), .int g, .int d, .int w] (zPre dC dI k (zTX k) (zX k q z) sz)) (va_Ql (fun (r : Int64) (u : ZS) => (XInv u) ∧ (trX u = trX z)) (fun u t => zPost dC dI (va_A (zX k q z) sz) (zX k q u) t) (va_A (zX k q z) sz)) 0 0 (va_A (zX k q z) sz) := by
  refine Met.ofW (cc := cX6_scatter) (maxL := 14) (ret := (some .long)) (by decide) rfl ?_
  intro p e s m args below meth c s₁ B hml hv
  obtain ⟨rfl, hsz, hP, hK, hD0⟩ := hv
  have hx := B.exec
  have hb := B.bytes
  have hr := B.returns
  have hts := atoms_spec (ws := wz yX6_scatter cX6_scatter 14 (some .long)) B.pre
  have htb : ∀ w ∈ zw, w.before _ s = true := fun w h => hts w (List.mem_cons_of_mem _ h)
  have hown : s.vm.findClass RX6 = some m.cls := findClass_of_methodNamed B.named
  have hlocks := B.notSynchronized
  clear hts
  subst hsz
  have hD := hD0.self (sz := s.heap.size)
  generalize hAe : va_A (zX k q z) s.heap.size = A at hD ⊢
  have hA : ∀ q : Nat, s.heap.size ≤ q → A q := fun q h => by rw [← hAe]; exact Or.inr h
  have hDa : ∀ z9 : ZS, va_D A (zX k q z9) := fun z9 => va_D_adr (w := zX k q z) rfl hD
  have hl := lv_entry ([.ref (q 0), .int g, .int d, .int w]) (n := 14) (Nat.le_of_ble_eq_true rfl)
  rw [lg_entry_eq]
  generalize (lg_sl ([.ref (q 0), .int g, .int d, .int w]) ++ List.replicate (14 - (lg_sl ([.ref (q 0), .int g, .int d, .int w])).length) Slot.unset).toArray = ls at hl ⊢
  have hl : lv_has ls 14 [(0, .ref (q 0)), (1, .int g), (2, .int d), (3, .int w)] := hl
  refine z_start2 (A := A) (w := (zX k q z)) hP (fun H locs hP hS => ?_)
  clear hD0 hAe
  have hT : trX z = trX z := rfl
  refine lv_aload_n hx hb dX6_scatter_0 rfl (lv_at hl 0 rfl) ?_
  refine lv_iload_n hx hb dX6_scatter_1 rfl (lv_at hl 1 rfl) ?_
  refine lv_iload_n hx hb dX6_scatter_2 rfl (lv_at hl 2 rfl) ?_
  refine lv_iload_n hx hb dX6_scatter_3 rfl (lv_at hl 3 rfl) ?_
  refine lv_iconst (v := 2) hx hb dX6_scatter_4 (by decide) ?_
  refine zcA_i (w := (zX k q z)) (va_runV (As := [.int g, .int d, .int w, .int 2]) (rest := []) ⟨hx, hb, hml, hown, htb⟩ (c_X6_estimateRefusal l dC dI k q z g d w 2 _ hI) (cwV 4 htb (gzV wmt2_150 wmt2_152 wmp1_10 wmt1_1 wmt2_153) rfl rfl rfl (by decide +kernel) ⟨Nat.le_of_ble_eq_true rfl, Nat.le_of_ble_eq_true rfl⟩) (zpA_V (ci := 6) (q0 := 0) hK hP (hDa _) rfl rfl) rfl rfl hl.1 rfl (lv_room (Nat.le_of_ble_eq_true rfl)) dX6_scatter_5 ⟨Nat.le_of_ble_eq_true rfl, Nat.le_of_ble_eq_true rfl⟩) (hDa _) hS hA (fun r_1 u_2 H locs w_3 hP _ hS => ?_)
  obtain ⟨h_4, h_5, h_6⟩ := w_3
  replace h_4 : XInv u_2 := h_4
  replace h_5 : trX u_2 = trX z := h_5
  replace h_6 : r_1.toInt = 0 → 0 ≤ d.toInt ∧ d.toInt < 4 := h_6
  have hI := h_4
  have hT := h_5.trans hT
  have her := h_6
  refine lv_istore (lv' := [(4, .int r_1), (0, .ref (q 0)), (1, .int g), (2, .int d), (3, .int w)]) hx hb dX6_scatter_8 hl (by decide) rfl (fun ls hl => ?_)
  refine lv_iload hx hb dX6_scatter_10 (lv_at hl 0 rfl) ?_
  refine lv_if_eq (tgt := 21) hx hb dX6_scatter_12 (by decide) (fun c_8 => ?_) (fun c_8 => ?_)
  · skip
    have hc_8 := zb_eq rfl (show (0 : Int32).toInt = 0 by decide) c_8
    have her2 := her (by omega)
    refine lv_aload_n hx hb dX6_scatter_21 rfl (lv_at hl 1 rfl) ?_
    refine va_get (D := (dC, dI)) (ci := 6) (v := .ref (q 1)) (C := RX6) (T := TX6) (N := 12) hx hb htb inw6 hown hK.1 hP 0 rfl rfl 0 (by decide) (htb _ wmt1_170) (fun _ h9 => h9) rfl dX6_scatter_22 ?_
    refine lv_iload_n hx hb dX6_scatter_25 rfl (lv_at hl 3 rfl) ?_
    refine va_aldq (D := (dC, dI)) hx hb hK.1 hP 1 3 rfl rfl (z_in (by omega)) dX6_scatter_26 ?_
    obtain ⟨d_9, ed_9⟩ : ∃ x : Nat, x = d.toNatClampNeg := ⟨_, rfl⟩
    have hd_9 : d_9 < 4 := by rw [ed_9]; exact z_cl4 (by omega)
    refine z_top (v2 := .ref (qD q d_9 0)) (zgD_at2 ed_9 hd_9) ?_
    refine lv_astore (lv' := [(5, .ref (qD q d_9 0)), (4, .int r_1), (0, .ref (q 0)), (1, .int g), (2, .int d), (3, .int w)]) hx hb dX6_scatter_27 hl (by decide) rfl (fun ls hl => ?_)
    refine lv_aload_n hx hb dX6_scatter_29 rfl (lv_at hl 2 rfl) ?_
    refine va_get (D := (dC, dI)) (ci := 6) (v := .ref (q 12)) (C := RX6) (T := TX6) (N := 12) hx hb htb inw6 hown hK.1 hP 0 rfl rfl 4 (by decide) (htb _ wmt1_174) (fun _ h9 => h9) rfl dX6_scatter_30 ?_
    refine va_get (D := (dC, dI)) (ci := 4) (v := .int (u_2.1 8)) (C := RX4) (T := TX4) (N := 3) hx hb htb inw4 hown hK.1 hP 12 rfl rfl 1 (by decide) (htb _ wmt1_76) (fun _ h9 => h9) rfl dX6_scatter_33 ?_
    refine lv_topi (fun x_10 ex_10 => ?_)
    have hx_10 : x_10.toInt = (u_2.1 8).toInt := by rw [ex_10]
    refine lv_i2l (v := x_10.toInt64) hx hb dX6_scatter_36 rfl ?_
    refine lv_topl (fun x_11 ex_11 => ?_)
    have hx_11 : x_11.toInt = x_10.toInt := by rw [ex_11]; exact Jvm.Kit.i64_of_i32 _
    refine lv_lstore (lv' := [(6, .long x_11), (5, .ref (qD q d_9 0)), (4, .int r_1), (0, .ref (q 0)), (1, .int g), (2, .int d), (3, .int w)]) hx hb dX6_scatter_37 hl (by decide) rfl (fun ls hl => ?_)
    refine lv_aload_n hx hb dX6_scatter_39 rfl (lv_at hl 3 rfl) ?_
    refine va_get (D := (dC, dI)) (ci := 6) (v := .ref (q 12)) (C := RX6) (T := TX6) (N := 12) hx hb htb inw6 hown hK.1 hP 0 rfl rfl 4 (by decide) (htb _ wmt1_174) (fun _ h9 => h9) rfl dX6_scatter_40 ?_
    refine va_get (D := (dC, dI)) (ci := 4) (v := .int (u_2.1 9)) (C := RX4) (T := TX4) (N := 3) hx hb htb inw4 hown hK.1 hP 12 rfl rfl 2 (by decide) (htb _ wmt1_78) (fun _ h9 => h9) rfl dX6_scatter_43 ?_
    refine lv_topi (fun x_12 ex_12 => ?_)
    have hx_12 : x_12.toInt = (u_2.1 9).toInt := by rw [ex_12]
    refine lv_i2l (v := x_12.toInt64) hx hb dX6_scatter_46 rfl ?_
    refine lv_topl (fun x_13 ex_13 => ?_)
    have hx_13 : x_13.toInt = x_12.toInt := by rw [ex_13]; exact Jvm.Kit.i64_of_i32 _
    refine lv_lstore (lv' := [(8, .long x_13), (6, .long x_11), (5, .ref (qD q d_9 0)), (4, .int r_1), (0, .ref (q 0)), (1, .int g), (2, .int d), (3, .int w)]) hx hb dX6_scatter_47 hl (by decide) rfl (fun ls hl => ?_)
    refine lv_aload hx hb dX6_scatter_49 (lv_at hl 2 rfl) ?_
    refine va_get (D := (dC, dI)) (ci := 1) (v := .int (u_2.1 (10 + 6 * d_9 + 5))) (C := RX1) (T := TX1) (N := 9) hx hb htb inw1 hown hK.1 hP (16 + 3 * d_9) (zX_D0 hd_9) rfl 8 (by decide) (htb _ wmt1_132) (fun _ h9 => h9) rfl dX6_scatter_51 ?_
    refine lv_topi (fun x_14 ex_14 => ?_)
    have hx_14 : x_14.toInt = (u_2.1 (10 + 6 * d_9 + 5)).toInt := by rw [ex_14]
    refine lv_i2l (v := x_14.toInt64) hx hb dX6_scatter_54 rfl ?_
    refine lv_topl (fun x_15 ex_15 => ?_)
    have hx_15 : x_15.toInt = x_14.toInt := by rw [ex_15]; exact Jvm.Kit.i64_of_i32 _
    refine lv_lstore (lv' := [(10, .long x_15), (8, .long x_13), (6, .long x_11), (5, .ref (qD q d_9 0)), (4, .int r_1), (0, .ref (q 0)), (1, .int g), (2, .int d), (3, .int w)]) hx hb dX6_scatter_55 hl (by decide) rfl (fun ls hl => ?_)
    refine lv_aload hx hb dX6_scatter_57 (lv_at hl 3 rfl) ?_
    refine zcS_l (w := (zX k q u_2)) (wc := (zD k (qD q d_9) (xD u_2 d_9))) (va_runV (As := []) (rest := []) ⟨hx, hb, hml, hown, htb⟩ (c_X1_difference l dC dI k (qD q d_9) (xD u_2 d_9) _ ) (cwV 0 htb (gzV wmt2_158 wmt2_159 wmt2_160 wmt1_6 wmt2_161) rfl rfl rfl (by decide +kernel) ⟨Nat.le_of_ble_eq_true rfl, Nat.le_of_ble_eq_true rfl⟩) (zp_V (ci := 1) (q0 := (16 + 3 * d_9)) hK hP (hDa _) [16 + 3 * d_9, 17 + 3 * d_9, 18 + 3 * d_9] (zX_DC hd_9) (zX_ndD hd_9) rfl (zX_D0 hd_9)) rfl rfl hl.1 rfl (lv_room (Nat.le_of_ble_eq_true rfl)) dX6_scatter_59 ⟨Nat.le_of_ble_eq_true rfl, Nat.le_of_ble_eq_true rfl⟩) hP (hDa _) hS hA [16 + 3 * d_9, 17 + 3 * d_9, 18 + 3 * d_9] (zX_DC hd_9) (fun _ => rfl) (fun r_16 u_17 H locs w_18 hP _ hS => ?_)
    have hP : va_P (dC, dI) vwCl (zX k q u_2) H := (zX_Dkeep hd_9) ▸ hP
    refine lv_lstore (lv' := [(12, .long r_16), (10, .long x_15), (8, .long x_13), (6, .long x_11), (5, .ref (qD q d_9 0)), (4, .int r_1), (0, .ref (q 0)), (1, .int g), (2, .int d), (3, .int w)]) hx hb dX6_scatter_62 hl (by decide) rfl (fun ls hl => ?_)
    refine lv_aload_n hx hb dX6_scatter_64 rfl (lv_at hl 6 rfl) ?_
    refine va_get (D := (dC, dI)) (ci := 6) (v := .ref (q 15)) (C := RX6) (T := TX6) (N := 12) hx hb htb inw6 hown hK.1 hP 0 rfl rfl 6 (by decide) (htb _ wmt1_176) (fun _ h9 => h9) rfl dX6_scatter_65 ?_
    refine lv_lload hx hb dX6_scatter_68 (lv_at hl 2 rfl) ?_
    refine lv_lload hx hb dX6_scatter_70 (lv_at hl 3 rfl) ?_
    refine lv_lload hx hb dX6_scatter_72 (lv_at hl 2 rfl) ?_
    refine lv_lsub hx hb dX6_scatter_74 ?_
    refine lv_topl (fun x_19 ex_19 => ?_)
    refine lv_lmul hx hb dX6_scatter_75 ?_
    refine lv_topl (fun x_20 ex_20 => ?_)
    refine lv_lload hx hb dX6_scatter_76 (lv_at hl 1 rfl) ?_
    refine lv_lmul hx hb dX6_scatter_78 ?_
    refine lv_topl (fun x_21 ex_21 => ?_)
    refine lv_lload hx hb dX6_scatter_79 (lv_at hl 1 rfl) ?_
    refine lv_lmul hx hb dX6_scatter_81 ?_
    refine lv_topl (fun x_22 ex_22 => ?_)
    refine lv_lload hx hb dX6_scatter_82 (lv_at hl 3 rfl) ?_
    refine lv_lload hx hb dX6_scatter_84 (lv_at hl 3 rfl) ?_
    refine lv_lmul hx hb dX6_scatter_86 ?_
    refine lv_topl (fun x_23 ex_23 => ?_)
    refine lv_lload hx hb dX6_scatter_87 (lv_at hl 3 rfl) ?_
    refine lv_lconst (v := 1) hx hb dX6_scatter_89 (by decide) ?_
    refine lv_lsub hx hb dX6_scatter_90 ?_
    refine lv_topl (fun x_24 ex_24 => ?_)
    refine lv_lmul hx hb dX6_scatter_91 ?_
    refine lv_topl (fun x_25 ex_25 => ?_)
    refine lv_lload hx hb dX6_scatter_92 (lv_at hl 0 rfl) ?_
    refine lv_lmul hx hb dX6_scatter_94 ?_
    refine lv_topl (fun x_26 ex_26 => ?_)
    refine lv_lload hx hb dX6_scatter_95 (lv_at hl 0 rfl) ?_
    refine lv_lmul hx hb dX6_scatter_97 ?_
    refine lv_topl (fun x_27 ex_27 => ?_)
    refine zcS_v (w := (zX k q u_2)) (wc := (zF k (qof q 15) (xF u_2))) (va_runV (As := [.long x_22, .long x_27]) (rest := []) ⟨hx, hb, hml, hown, htb⟩ (c_X2_become l dC dI k (qof q 15) (xF u_2) x_22 x_27 _ ) (cwV 2 htb (gzV wmt2_56 wmt2_57 wmt2_58 wmt1_5 wmt2_59) rfl rfl rfl (by decide +kernel) ⟨Nat.le_of_ble_eq_true rfl, Nat.le_of_ble_eq_true rfl⟩) (zp_V (ci := 2) (q0 := 15) hK hP (hDa _) [15] rfl (by decide) rfl rfl) rfl rfl hl.1 rfl (lv_room (Nat.le_of_ble_eq_true rfl)) dX6_scatter_98 ⟨Nat.le_of_ble_eq_true rfl, Nat.le_of_ble_eq_true rfl⟩) hP (hDa _) hS hA [15] rfl (fun _ => rfl) (fun u_29 H locs w_30 hP _ hS => ?_)
    have hP : va_P (dC, dI) vwCl (zX k q (sJ (sJ u_2 0 (u_29.2.1 0)) 1 (u_29.2.1 1))) H := hP
    refine lv_aload_n hx hb dX6_scatter_101 rfl (lv_at hl 6 rfl) ?_
    refine va_get (D := (dC, dI)) (ci := 6) (v := .ref (q 15)) (C := RX6) (T := TX6) (N := 12) hx hb htb inw6 hown hK.1 hP 0 rfl rfl 6 (by decide) (htb _ wmt1_176) (fun _ h9 => h9) rfl dX6_scatter_102 ?_
    refine lv_iload_n hx hb dX6_scatter_105 rfl (lv_at hl 9 rfl) ?_
    refine zcS_l (w := (zX k q (sJ (sJ u_2 0 (u_29.2.1 0)) 1 (u_29.2.1 1)))) (wc := (zF k (qof q 15) (xF (sJ (sJ u_2 0 (u_29.2.1 0)) 1 (u_29.2.1 1))))) (va_runV (As := [.int w]) (rest := []) ⟨hx, hb, hml, hown, htb⟩ (c_X2_told l dC dI k (qof q 15) (xF (sJ (sJ u_2 0 (u_29.2.1 0)) 1 (u_29.2.1 1))) w _ ) (cwV 1 htb (gzV wmt2_61 wmt2_62 wmt2_63 wmt1_5 wmt2_64) rfl rfl rfl (by decide +kernel) ⟨Nat.le_of_ble_eq_true rfl, Nat.le_of_ble_eq_true rfl⟩) (zp_V (ci := 2) (q0 := 15) hK hP (hDa _) [15] rfl (by decide) rfl rfl) rfl rfl hl.1 rfl (lv_room (Nat.le_of_ble_eq_true rfl)) dX6_scatter_106 ⟨Nat.le_of_ble_eq_true rfl, Nat.le_of_ble_eq_true rfl⟩) hP (hDa _) hS hA [15] rfl (fun _ => rfl) (fun r_31 u_32 H locs w_33 hP _ hS => ?_)
    have hP : va_P (dC, dI) vwCl (zX k q (sJ (sJ u_2 0 (u_29.2.1 0)) 1 (u_29.2.1 1))) H := hP
    have h_34 := w_33
    replace h_34 : (w.toInt = 0 → r_31 = (xF (sJ (sJ u_2 0 (u_29.2.1 0)) 1 (u_29.2.1 1))).2.1 0) ∧ (¬ w.toInt = 0 → r_31 = (xF (sJ (sJ u_2 0 (u_29.2.1 0)) 1 (u_29.2.1 1))).2.1 1) := h_34
    exact W.lret (v := r_31) hx hb hr (fun t ht hW => ⟨⟨r_31, (sJ (sJ u_2 0 (u_29.2.1 0)) 1 (u_29.2.1 1)), rfl, ⟨hI, hT⟩, ⟨by rw [ht]; exact hP, hDa _⟩⟩, hS.F ht⟩) hS.2.2 dX6_scatter_109
  · skip
    have hc_8 := zb_ne rfl (show (0 : Int32).toInt = 0 by decide) c_8
    refine lv_iload hx hb dX6_scatter_15 (lv_at hl 0 rfl) ?_
    refine zc0_l (w := (zX k q u_2)) (va_runS (As := [.int r_1]) (rest := []) ⟨hx, hb, hml, hown, htb⟩ (c_X6_asLong l dC dI k r_1 _ ) (va_cwS 1 htb (gzS wmt2_51 wmt2_52 wmt1_1 wmt2_53) rfl rfl rfl (by decide +kernel) ⟨Nat.le_of_ble_eq_true rfl, Nat.le_of_ble_eq_true rfl⟩) (zp0_S hK) rfl rfl hl.1 rfl (lv_room (Nat.le_of_ble_eq_true rfl)) dX6_scatter_17 ⟨Nat.le_of_ble_eq_true rfl, Nat.le_of_ble_eq_true rfl⟩) hP hS hA (fun r_36 u_37 H locs w_38 hP hS => ?_)
    have h_39 := w_38
    replace h_39 : r_36.toInt = tl r_1 := h_39
    exact W.lret (v := r_36) hx hb hr (fun t ht hW => ⟨⟨r_36, u_2, rfl, ⟨hI, hT⟩, ⟨by rw [ht]; exact hP, hDa _⟩⟩, hS.F ht⟩) hS.2.2 dX6_scatter_20
