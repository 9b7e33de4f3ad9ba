set_option maxHeartbeats 4000000 in
set_option maxRecDepth 100000 in
theorem c_X7_in (l : Launch) (dC : Nat → ClassId) (dI : Nat → Nat → Nat) (k : Nat → ClassId) (v : Int32) (lo : Int32) (hi : Int32) (sz : Nat)  : Met l yX7_in (wz yX7_in cX7_in 3 (some .boolean)) ({ frames := 0, cells := 0, slots := 0, locals := 0 }) (va_Pc [.int v, .int lo, .int hi] (zPre dC dI k (zTX k) [] sz)) (va_Qi (fun (r : Int32) (u : Unit) => (r = 1 ∧ (lo.toInt ≤ v.toInt ∧ v.toInt ≤ hi.toInt)) ∨ (r = 0 ∧ (¬ (lo.toInt ≤ v.toInt ∧ v.toInt ≤ hi.toInt)))) (fun u t => zPost dC dI (va_A [] sz) [] t) (va_A [] sz)) 0 0 (va_A [] sz) := by
  refine Met.ofW (cc := cX7_in) (maxL := 3) (ret := (some .boolean)) (by decide) rfl ?_
  intro p e s m args below meth c s₁ B hml hv
  obtain ⟨rfl, hsz, hP, hK, hD0⟩ := hv
  have hx := B.exec
  have hb := B.bytes
  have hr := B.returns
  have hts := atoms_spec (ws := wz yX7_in cX7_in 3 (some .boolean)) B.pre
  have htb : ∀ w ∈ zw, w.before _ s = true := fun w h => hts w (List.mem_cons_of_mem _ h)
  have hown : s.vm.findClass RX7 = some m.cls := findClass_of_methodNamed B.named
  have hlocks := B.notSynchronized
  clear hts
  subst hsz
  have hD := hD0.self (sz := s.heap.size)
  generalize hAe : va_A [] s.heap.size = A at hD ⊢
  have hA : ∀ q : Nat, s.heap.size ≤ q → A q := fun q h => by rw [← hAe]; exact Or.inr h
  have hl := lv_entry ([.int v, .int lo, .int hi]) (n := 3) (Nat.le_of_ble_eq_true rfl)
  rw [lg_entry_eq]
  generalize (lg_sl ([.int v, .int lo, .int hi]) ++ List.replicate (3 - (lg_sl ([.int v, .int lo, .int hi])).length) Slot.unset).toArray = ls at hl ⊢
  have hl : lv_has ls 3 [(0, .int v), (1, .int lo), (2, .int hi)] := hl
  refine z_start2 (A := A) (w := []) hP (fun H locs hP hS => ?_)
  clear hD0 hAe
  refine lv_iload_n hx hb dX7_in_0 rfl (lv_at hl 0 rfl) ?_
  refine lv_iload_n hx hb dX7_in_1 rfl (lv_at hl 1 rfl) ?_
  refine lv_icmp_lt (tgt := 14) hx hb dX7_in_2 (by decide) (fun c_1 => ?_) (fun c_1 => ?_)
  · skip
    have hc_1 := zb_lt rfl rfl c_1
    refine lv_iconst (v := 0) hx hb dX7_in_14 (by decide) ?_
    exact W.zret (v := 0) (ty := .boolean) hx hb hr rfl (fun t ht hW => ⟨⟨0, (), rfl, Or.inr (⟨rfl, (by first | assumption | omega | decide | rfl)⟩), ⟨by rw [ht]; exact hP, hD⟩⟩, hS.F ht⟩) hS.2.2 dX7_in_15
  · skip
    have hc_1 := zb_nlt rfl rfl c_1
    refine lv_iload_n hx hb dX7_in_5 rfl (lv_at hl 0 rfl) ?_
    refine lv_iload_n hx hb dX7_in_6 rfl (lv_at hl 2 rfl) ?_
    refine lv_icmp_gt (tgt := 14) hx hb dX7_in_7 (by decide) (fun c_2 => ?_) (fun c_2 => ?_)
    · skip
      have hc_2 := zb_lt rfl rfl c_2
      refine lv_iconst (v := 0) hx hb dX7_in_14 (by decide) ?_
      exact W.zret (v := 0) (ty := .boolean) hx hb hr rfl (fun t ht hW => ⟨⟨0, (), rfl, Or.inr (⟨rfl, (by first | assumption | omega | decide | rfl)⟩), ⟨by rw [ht]; exact hP, hD⟩⟩, hS.F ht⟩) hS.2.2 dX7_in_15
    · skip
      have hc_2 := zb_nlt rfl rfl c_2
      refine lv_iconst (v := 1) hx hb dX7_in_10 (by decide) ?_
      refine lv_goto (tgt := 15) hx hb dX7_in_11 (by decide) ?_
      exact W.zret (v := 1) (ty := .boolean) hx hb hr rfl (fun t ht hW => ⟨⟨1, (), rfl, Or.inl (⟨rfl, (by first | assumption | omega | decide | rfl)⟩), ⟨by rw [ht]; exact hP, hD⟩⟩, hS.F ht⟩) hS.2.2 dX7_in_15
set_option maxHeartbeats 4000000 in
set_option maxRecDepth 100000 in
theorem c_X7_isDesign (l : Launch) (dC : Nat → ClassId) (dI : Nat → Nat → Nat) (k : Nat → ClassId) (v : Int32) (sz : Nat)  : Met l yX7_isDesign (wz yX7_isDesign cX7_isDesign 1 (some .boolean)) ({ frames := 1, cells := 0, slots := 0, locals := 22 }) (va_Pc [.int v] (zPre dC dI k (zTX k) [] sz)) (va_Qi (fun (r : Int32) (u : Unit) => (r = 1 ∧ (0 ≤ v.toInt ∧ v.toInt < 4)) ∨ (r = 0 ∧ (¬ (0 ≤ v.toInt ∧ v.toInt < 4)))) (fun u t => zPost dC dI (va_A [] sz) [] t) (va_A [] sz)) 0 0 (va_A [] sz) := by
  refine Met.ofW (cc := cX7_isDesign) (maxL := 1) (ret := (some .boolean)) (by decide) rfl ?_
  intro p e s m args below meth c s₁ B hml hv
  obtain ⟨rfl, hsz, hP, hK, hD0⟩ := hv
  have hx := B.exec
  have hb := B.bytes
  have hr := B.returns
  have hts := atoms_spec (ws := wz yX7_isDesign cX7_isDesign 1 (some .boolean)) B.pre
  have htb : ∀ w ∈ zw, w.before _ s = true := fun w h => hts w (List.mem_cons_of_mem _ h)
  have hown : s.vm.findClass RX7 = some m.cls := findClass_of_methodNamed B.named
  have hlocks := B.notSynchronized
  clear hts
  subst hsz
  have hD := hD0.self (sz := s.heap.size)
  generalize hAe : va_A [] s.heap.size = A at hD ⊢
  have hA : ∀ q : Nat, s.heap.size ≤ q → A q := fun q h => by rw [← hAe]; exact Or.inr h
  have hl := lv_entry ([.int v]) (n := 1) (Nat.le_of_ble_eq_true rfl)
  rw [lg_entry_eq]
  generalize (lg_sl ([.int v]) ++ List.replicate (1 - (lg_sl ([.int v])).length) Slot.unset).toArray = ls at hl ⊢
  have hl : lv_has ls 1 [(0, .int v)] := hl
  refine z_start2 (A := A) (w := []) hP (fun H locs hP hS => ?_)
  clear hD0 hAe
  refine lv_iload_n hx hb dX7_isDesign_0 rfl (lv_at hl 0 rfl) ?_
  refine lv_iconst (v := 0) hx hb dX7_isDesign_1 (by decide) ?_
  refine lv_iconst (v := 3) hx hb dX7_isDesign_2 (by decide) ?_
  refine zc0_i (w := []) (va_runS (As := [.int v, .int 0, .int 3]) (rest := []) ⟨hx, hb, hml, hown, htb⟩ (c_X7_in l dC dI k v 0 3 _ ) (va_cwS 3 htb (gzS wmt4_62 wmt4_63 wmt1_8 wmt4_64) rfl rfl rfl (by decide +kernel) ⟨Nat.le_of_ble_eq_true rfl, Nat.le_of_ble_eq_true rfl⟩) (zp0_S hK) rfl rfl hl.1 rfl (lv_room (Nat.le_of_ble_eq_true rfl)) dX7_isDesign_3 ⟨Nat.le_of_ble_eq_true rfl, Nat.le_of_ble_eq_true rfl⟩) hP hS hA (fun r_1 u_2 H locs w_3 hP hS => ?_)
  rcases w_3 with ⟨e_5, h_4⟩ | ⟨e_7, h_6⟩
  · skip
    replace e_5 : r_1 = 1 := e_5
    subst e_5
    replace h_4 : (0 : Int32).toInt ≤ v.toInt ∧ v.toInt ≤ (3 : Int32).toInt := h_4
    rw [show (0 : Int32).toInt = 0 by decide, show (3 : Int32).toInt = 3 by decide] at h_4
    exact W.zret (v := 1) (ty := .boolean) hx hb hr rfl (fun t ht hW => ⟨⟨1, (), rfl, Or.inl (⟨rfl, (by first | assumption | omega | decide | rfl)⟩), ⟨by rw [ht]; exact hP, hD⟩⟩, hS.F ht⟩) hS.2.2 dX7_isDesign_6
  · skip
    replace e_7 : r_1 = 0 := e_7
    subst e_7
    replace h_6 : ¬ ((0 : Int32).toInt ≤ v.toInt ∧ v.toInt ≤ (3 : Int32).toInt) := h_6
    rw [show (0 : Int32).toInt = 0 by decide, show (3 : Int32).toInt = 3 by decide] at h_6
    exact W.zret (v := 0) (ty := .boolean) hx hb hr rfl (fun t ht hW => ⟨⟨0, (), rfl, Or.inr (⟨rfl, (by first | assumption | omega | decide | rfl)⟩), ⟨by rw [ht]; exact hP, hD⟩⟩, hS.F ht⟩) hS.2.2 dX7_isDesign_6
set_option maxHeartbeats 4000000 in
set_option maxRecDepth 100000 in
theorem c_X7_isPerson (l : Launch) (dC : Nat → ClassId) (dI : Nat → Nat → Nat) (k : Nat → ClassId) (v : Int32) (sz : Nat)  : Met l yX7_isPerson (wz yX7_isPerson cX7_isPerson 1 (some .boolean)) ({ frames := 1, cells := 0, slots := 0, locals := 22 }) (va_Pc [.int v] (zPre dC dI k (zTX k) [] sz)) (va_Qi (fun (r : Int32) (u : Unit) => (r = 1 ∧ (0 ≤ v.toInt ∧ v.toInt < 24)) ∨ (r = 0 ∧ (¬ (0 ≤ v.toInt ∧ v.toInt < 24)))) (fun u t => zPost dC dI (va_A [] sz) [] t) (va_A [] sz)) 0 0 (va_A [] sz) := by
  refine Met.ofW (cc := cX7_isPerson) (maxL := 1) (ret := (some .boolean)) (by decide) rfl ?_
  intro p e s m args below meth c s₁ B hml hv
  obtain ⟨rfl, hsz, hP, hK, hD0⟩ := hv
  have hx := B.exec
  have hb := B.bytes
  have hr := B.returns
  have hts := atoms_spec (ws := wz yX7_isPerson cX7_isPerson 1 (some .boolean)) B.pre
  have htb : ∀ w ∈ zw, w.before _ s = true := fun w h => hts w (List.mem_cons_of_mem _ h)
  have hown : s.vm.findClass RX7 = some m.cls := findClass_of_methodNamed B.named
  have hlocks := B.notSynchronized
  clear hts
  subst hsz
  have hD := hD0.self (sz := s.heap.size)
  generalize hAe : va_A [] s.heap.size = A at hD ⊢
  have hA : ∀ q : Nat, s.heap.size ≤ q → A q := fun q h => by rw [← hAe]; exact Or.inr h
  have hl := lv_entry ([.int v]) (n := 1) (Nat.le_of_ble_eq_true rfl)
  rw [lg_entry_eq]
  generalize (lg_sl ([.int v]) ++ List.replicate (1 - (lg_sl ([.int v])).length) Slot.unset).toArray = ls at hl ⊢
  have hl : lv_has ls 1 [(0, .int v)] := hl
  refine z_start2 (A := A) (w := []) hP (fun H locs hP hS => ?_)
  clear hD0 hAe
  refine lv_iload_n hx hb dX7_isPerson_0 rfl (lv_at hl 0 rfl) ?_
  refine lv_iconst (v := 0) hx hb dX7_isPerson_1 (by decide) ?_
  refine lv_bipush (v := 23) hx hb dX7_isPerson_2 (by decide) ?_
  refine zc0_i (w := []) (va_runS (As := [.int v, .int 0, .int 23]) (rest := []) ⟨hx, hb, hml, hown, htb⟩ (c_X7_in l dC dI k v 0 23 _ ) (va_cwS 3 htb (gzS wmt4_62 wmt4_63 wmt1_8 wmt4_64) rfl rfl rfl (by decide +kernel) ⟨Nat.le_of_ble_eq_true rfl, Nat.le_of_ble_eq_true rfl⟩) (zp0_S hK) rfl rfl hl.1 rfl (lv_room (Nat.le_of_ble_eq_true rfl)) dX7_isPerson_4 ⟨Nat.le_of_ble_eq_true rfl, Nat.le_of_ble_eq_true rfl⟩) hP hS hA (fun r_1 u_2 H locs w_3 hP hS => ?_)
  rcases w_3 with ⟨e_5, h_4⟩ | ⟨e_7, h_6⟩
  · skip
    replace e_5 : r_1 = 1 := e_5
    subst e_5
    replace h_4 : (0 : Int32).toInt ≤ v.toInt ∧ v.toInt ≤ (23 : Int32).toInt := h_4
    rw [show (0 : Int32).toInt = 0 by decide, show (23 : Int32).toInt = 23 by decide] at h_4
    exact W.zret (v := 1) (ty := .boolean) hx hb hr rfl (fun t ht hW => ⟨⟨1, (), rfl, Or.inl (⟨rfl, (by first | assumption | omega | decide | rfl)⟩), ⟨by rw [ht]; exact hP, hD⟩⟩, hS.F ht⟩) hS.2.2 dX7_isPerson_7
  · skip
    replace e_7 : r_1 = 0 := e_7
    subst e_7
    replace h_6 : ¬ ((0 : Int32).toInt ≤ v.toInt ∧ v.toInt ≤ (23 : Int32).toInt) := h_6
    rw [show (0 : Int32).toInt = 0 by decide, show (23 : Int32).toInt = 23 by decide] at h_6
    exact W.zret (v := 0) (ty := .boolean) hx hb hr rfl (fun t ht hW => ⟨⟨0, (), rfl, Or.inr (⟨rfl, (by first | assumption | omega | decide | rfl)⟩), ⟨by rw [ht]; exact hP, hD⟩⟩, hS.F ht⟩) hS.2.2 dX7_isPerson_7
set_option maxHeartbeats 4000000 in
set_option maxRecDepth 100000 in
theorem c_X7_isGroup (l : Launch) (dC : Nat → ClassId) (dI : Nat → Nat → Nat) (k : Nat → ClassId) (v : Int32) (sz : Nat)  : Met l yX7_isGroup (wz yX7_isGroup cX7_isGroup 1 (some .boolean)) ({ frames := 1, cells := 0, slots := 0, locals := 22 }) (va_Pc [.int v] (zPre dC dI k (zTX k) [] sz)) (va_Qi (fun (r : Int32) (u : Unit) => (r = 1 ∧ (0 ≤ v.toInt ∧ v.toInt < 4)) ∨ (r = 0 ∧ (¬ (0 ≤ v.toInt ∧ v.toInt < 4)))) (fun u t => zPost dC dI (va_A [] sz) [] t) (va_A [] sz)) 0 0 (va_A [] sz) := by
  refine Met.ofW (cc := cX7_isGroup) (maxL := 1) (ret := (some .boolean)) (by decide) rfl ?_
  intro p e s m args below meth c s₁ B hml hv
  obtain ⟨rfl, hsz, hP, hK, hD0⟩ := hv
  have hx := B.exec
  have hb := B.bytes
  have hr := B.returns
  have hts := atoms_spec (ws := wz yX7_isGroup cX7_isGroup 1 (some .boolean)) B.pre
  have htb : ∀ w ∈ zw, w.before _ s = true := fun w h => hts w (List.mem_cons_of_mem _ h)
  have hown : s.vm.findClass RX7 = some m.cls := findClass_of_methodNamed B.named
  have hlocks := B.notSynchronized
  clear hts
  subst hsz
  have hD := hD0.self (sz := s.heap.size)
  generalize hAe : va_A [] s.heap.size = A at hD ⊢
  have hA : ∀ q : Nat, s.heap.size ≤ q → A q := fun q h => by rw [← hAe]; exact Or.inr h
  have hl := lv_entry ([.int v]) (n := 1) (Nat.le_of_ble_eq_true rfl)
  rw [lg_entry_eq]
  generalize (lg_sl ([.int v]) ++ List.replicate (1 - (lg_sl ([.int v])).length) Slot.unset).toArray = ls at hl ⊢
  have hl : lv_has ls 1 [(0, .int v)] := hl
  refine z_start2 (A := A) (w := []) hP (fun H locs hP hS => ?_)
  clear hD0 hAe
  refine lv_iload_n hx hb dX7_isGroup_0 rfl (lv_at hl 0 rfl) ?_
  refine lv_iconst (v := 0) hx hb dX7_isGroup_1 (by decide) ?_
  refine lv_iconst (v := 3) hx hb dX7_isGroup_2 (by decide) ?_
  refine zc0_i (w := []) (va_runS (As := [.int v, .int 0, .int 3]) (rest := []) ⟨hx, hb, hml, hown, htb⟩ (c_X7_in l dC dI k v 0 3 _ ) (va_cwS 3 htb (gzS wmt4_62 wmt4_63 wmt1_8 wmt4_64) rfl rfl rfl (by decide +kernel) ⟨Nat.le_of_ble_eq_true rfl, Nat.le_of_ble_eq_true rfl⟩) (zp0_S hK) rfl rfl hl.1 rfl (lv_room (Nat.le_of_ble_eq_true rfl)) dX7_isGroup_3 ⟨Nat.le_of_ble_eq_true rfl, Nat.le_of_ble_eq_true rfl⟩) hP hS hA (fun r_1 u_2 H locs w_3 hP hS => ?_)
  rcases w_3 with ⟨e_5, h_4⟩ | ⟨e_7, h_6⟩
  · skip
    replace e_5 : r_1 = 1 := e_5
    subst e_5
    replace h_4 : (0 : Int32).toInt ≤ v.toInt ∧ v.toInt ≤ (3 : Int32).toInt := h_4
    rw [show (0 : Int32).toInt = 0 by decide, show (3 : Int32).toInt = 3 by decide] at h_4
    exact W.zret (v := 1) (ty := .boolean) hx hb hr rfl (fun t ht hW => ⟨⟨1, (), rfl, Or.inl (⟨rfl, (by first | assumption | omega | decide | rfl)⟩), ⟨by rw [ht]; exact hP, hD⟩⟩, hS.F ht⟩) hS.2.2 dX7_isGroup_6
  · skip
    replace e_7 : r_1 = 0 := e_7
    subst e_7
    replace h_6 : ¬ ((0 : Int32).toInt ≤ v.toInt ∧ v.toInt ≤ (3 : Int32).toInt) := h_6
    rw [show (0 : Int32).toInt = 0 by decide, show (3 : Int32).toInt = 3 by decide] at h_6
    exact W.zret (v := 0) (ty := .boolean) hx hb hr rfl (fun t ht hW => ⟨⟨0, (), rfl, Or.inr (⟨rfl, (by first | assumption | omega | decide | rfl)⟩), ⟨by rw [ht]; exact hP, hD⟩⟩, hS.F ht⟩) hS.2.2 dX7_isGroup_6
set_option maxHeartbeats 4000000 in
set_option maxRecDepth 100000 in
theorem c_X7_isSheet (l : Launch) (dC : Nat → ClassId) (dI : Nat → Nat → Nat) (k : Nat → ClassId) (v : Int32) (sz : Nat)  : Met l yX7_isSheet (wz yX7_isSheet cX7_isSheet 1 (some .boolean)) ({ frames := 1, cells := 0, slots := 0, locals := 22 }) (va_Pc [.int v] (zPre dC dI k (zTX k) [] sz)) (va_Qi (fun (r : Int32) (u : Unit) => (r = 1 ∧ (0 ≤ v.toInt ∧ v.toInt < 4)) ∨ (r = 0 ∧ (¬ (0 ≤ v.toInt ∧ v.toInt < 4)))) (fun u t => zPost dC dI (va_A [] sz) [] t) (va_A [] sz)) 0 0 (va_A [] sz) := by
  refine Met.ofW (cc := cX7_isSheet) (maxL := 1) (ret := (some .boolean)) (by decide) rfl ?_
  intro p e s m args below meth c s₁ B hml hv
  obtain ⟨rfl, hsz, hP, hK, hD0⟩ := hv
  have hx := B.exec
  have hb := B.bytes
  have hr := B.returns
  have hts := atoms_spec (ws := wz yX7_isSheet cX7_isSheet 1 (some .boolean)) B.pre
  have htb : ∀ w ∈ zw, w.before _ s = true := fun w h => hts w (List.mem_cons_of_mem _ h)
  have hown : s.vm.findClass RX7 = some m.cls := findClass_of_methodNamed B.named
  have hlocks := B.notSynchronized
  clear hts
  subst hsz
  have hD := hD0.self (sz := s.heap.size)
  generalize hAe : va_A [] s.heap.size = A at hD ⊢
  have hA : ∀ q : Nat, s.heap.size ≤ q → A q := fun q h => by rw [← hAe]; exact Or.inr h
  have hl := lv_entry ([.int v]) (n := 1) (Nat.le_of_ble_eq_true rfl)
  rw [lg_entry_eq]
  generalize (lg_sl ([.int v]) ++ List.replicate (1 - (lg_sl ([.int v])).length) Slot.unset).toArray = ls at hl ⊢
  have hl : lv_has ls 1 [(0, .int v)] := hl
  refine z_start2 (A := A) (w := []) hP (fun H locs hP hS => ?_)
  clear hD0 hAe
  refine lv_iload_n hx hb dX7_isSheet_0 rfl (lv_at hl 0 rfl) ?_
  refine lv_iconst (v := 0) hx hb dX7_isSheet_1 (by decide) ?_
  refine lv_iconst (v := 3) hx hb dX7_isSheet_2 (by decide) ?_
  refine zc0_i (w := []) (va_runS (As := [.int v, .int 0, .int 3]) (rest := []) ⟨hx, hb, hml, hown, htb⟩ (c_X7_in l dC dI k v 0 3 _ ) (va_cwS 3 htb (gzS wmt4_62 wmt4_63 wmt1_8 wmt4_64) rfl rfl rfl (by decide +kernel) ⟨Nat.le_of_ble_eq_true rfl, Nat.le_of_ble_eq_true rfl⟩) (zp0_S hK) rfl rfl hl.1 rfl (lv_room (Nat.le_of_ble_eq_true rfl)) dX7_isSheet_3 ⟨Nat.le_of_ble_eq_true rfl, Nat.le_of_ble_eq_true rfl⟩) hP hS hA (fun r_1 u_2 H locs w_3 hP hS => ?_)
  rcases w_3 with ⟨e_5, h_4⟩ | ⟨e_7, h_6⟩
  · skip
    replace e_5 : r_1 = 1 := e_5
    subst e_5
    replace h_4 : (0 : Int32).toInt ≤ v.toInt ∧ v.toInt ≤ (3 : Int32).toInt := h_4
    rw [show (0 : Int32).toInt = 0 by decide, show (3 : Int32).toInt = 3 by decide] at h_4
    exact W.zret (v := 1) (ty := .boolean) hx hb hr rfl (fun t ht hW => ⟨⟨1, (), rfl, Or.inl (⟨rfl, (by first | assumption | omega | decide | rfl)⟩), ⟨by rw [ht]; exact hP, hD⟩⟩, hS.F ht⟩) hS.2.2 dX7_isSheet_6
  · skip
    replace e_7 : r_1 = 0 := e_7
    subst e_7
    replace h_6 : ¬ ((0 : Int32).toInt ≤ v.toInt ∧ v.toInt ≤ (3 : Int32).toInt) := h_6
    rw [show (0 : Int32).toInt = 0 by decide, show (3 : Int32).toInt = 3 by decide] at h_6
    exact W.zret (v := 0) (ty := .boolean) hx hb hr rfl (fun t ht hW => ⟨⟨0, (), rfl, Or.inr (⟨rfl, (by first | assumption | omega | decide | rfl)⟩), ⟨by rw [ht]; exact hP, hD⟩⟩, hS.F ht⟩) hS.2.2 dX7_isSheet_6
set_option maxHeartbeats 4000000 in
set_option maxRecDepth 100000 in
theorem c_X7_isPoll (l : Launch) (dC : Nat → ClassId) (dI : Nat → Nat → Nat) (k : Nat → ClassId) (g : Int32) (v : Int32) (sz : Nat)  : Met l yX7_isPoll (wz yX7_isPoll cX7_isPoll 2 (some .boolean)) ({ frames := 2, cells := 0, slots := 0, locals := 42 }) (va_Pc [.int g, .int v] (zPre dC dI k (zTX k) [] sz)) (va_Qi (fun (r : Int32) (u : Unit) => (r = 1 ∧ ((0 ≤ g.toInt ∧ g.toInt < 4) ∧ (0 ≤ v.toInt ∧ v.toInt < 4))) ∨ (r = 0 ∧ (¬ ((0 ≤ g.toInt ∧ g.toInt < 4) ∧ (0 ≤ v.toInt ∧ v.toInt < 4))))) (fun u t => zPost dC dI (va_A [] sz) [] t) (va_A [] sz)) 0 0 (va_A [] sz) := by
  refine Met.ofW (cc := cX7_isPoll) (maxL := 2) (ret := (some .boolean)) (by decide) rfl ?_
  intro p e s m args below meth c s₁ B hml hv
  obtain ⟨rfl, hsz, hP, hK, hD0⟩ := hv
  have hx := B.exec
  have hb := B.bytes
  have hr := B.returns
  have hts := atoms_spec (ws := wz yX7_isPoll cX7_isPoll 2 (some .boolean)) B.pre
  have htb : ∀ w ∈ zw, w.before _ s = true := fun w h => hts w (List.mem_cons_of_mem _ h)
  have hown : s.vm.findClass RX7 = some m.cls := findClass_of_methodNamed B.named
  have hlocks := B.notSynchronized
  clear hts
  subst hsz
  have hD := hD0.self (sz := s.heap.size)
  generalize hAe : va_A [] s.heap.size = A at hD ⊢
  have hA : ∀ q : Nat, s.heap.size ≤ q → A q := fun q h => by rw [← hAe]; exact Or.inr h
  have hl := lv_entry ([.int g, .int v]) (n := 2) (Nat.le_of_ble_eq_true rfl)
  rw [lg_entry_eq]
  generalize (lg_sl ([.int g, .int v]) ++ List.replicate (2 - (lg_sl ([.int g, .int v])).length) Slot.unset).toArray = ls at hl ⊢
  have hl : lv_has ls 2 [(0, .int g), (1, .int v)] := hl
  refine z_start2 (A := A) (w := []) hP (fun H locs hP hS => ?_)
  clear hD0 hAe
  refine lv_iload_n hx hb dX7_isPoll_0 rfl (lv_at hl 0 rfl) ?_
  refine zc0_i (w := []) (va_runS (As := [.int g]) (rest := []) ⟨hx, hb, hml, hown, htb⟩ (c_X7_isGroup l dC dI k g _ ) (va_cwS 1 htb (gzS wmt4_156 wmt4_157 wmt1_8 wmt4_158) rfl rfl rfl (by decide +kernel) ⟨Nat.le_of_ble_eq_true rfl, Nat.le_of_ble_eq_true rfl⟩) (zp0_S hK) rfl rfl hl.1 rfl (lv_room (Nat.le_of_ble_eq_true rfl)) dX7_isPoll_1 ⟨Nat.le_of_ble_eq_true rfl, Nat.le_of_ble_eq_true rfl⟩) hP hS hA (fun r_1 u_2 H locs w_3 hP hS => ?_)
  rcases w_3 with ⟨e_5, h_4⟩ | ⟨e_7, h_6⟩
  · skip
    replace e_5 : r_1 = 1 := e_5
    subst e_5
    replace h_4 : 0 ≤ g.toInt ∧ g.toInt < 4 := h_4
    refine lv_if_eq (tgt := 18) hx hb dX7_isPoll_4 (by decide) (fun c_8 => ?_) (fun c_8 => ?_)
    · skip
      exact absurd c_8 (by decide)
    · skip
      refine lv_iload_n hx hb dX7_isPoll_7 rfl (lv_at hl 1 rfl) ?_
      refine zc0_i (w := []) (va_runS (As := [.int v]) (rest := []) ⟨hx, hb, hml, hown, htb⟩ (c_X7_isDesign l dC dI k v _ ) (va_cwS 1 htb (gzS wmt4_59 wmt4_60 wmt1_8 wmt4_61) rfl rfl rfl (by decide +kernel) ⟨Nat.le_of_ble_eq_true rfl, Nat.le_of_ble_eq_true rfl⟩) (zp0_S hK) rfl rfl hl.1 rfl (lv_room (Nat.le_of_ble_eq_true rfl)) dX7_isPoll_8 ⟨Nat.le_of_ble_eq_true rfl, Nat.le_of_ble_eq_true rfl⟩) hP hS hA (fun r_9 u_10 H locs w_11 hP hS => ?_)
      rcases w_11 with ⟨e_13, h_12⟩ | ⟨e_15, h_14⟩
      · skip
        replace e_13 : r_9 = 1 := e_13
        subst e_13
        replace h_12 : 0 ≤ v.toInt ∧ v.toInt < 4 := h_12
        refine lv_if_eq (tgt := 18) hx hb dX7_isPoll_11 (by decide) (fun c_16 => ?_) (fun c_16 => ?_)
        · skip
          exact absurd c_16 (by decide)
        · skip
          refine lv_iconst (v := 1) hx hb dX7_isPoll_14 (by decide) ?_
          refine lv_goto (tgt := 19) hx hb dX7_isPoll_15 (by decide) ?_
          exact W.zret (v := 1) (ty := .boolean) hx hb hr rfl (fun t ht hW => ⟨⟨1, (), rfl, Or.inl (⟨rfl, (by first | assumption | omega | decide | rfl)⟩), ⟨by rw [ht]; exact hP, hD⟩⟩, hS.F ht⟩) hS.2.2 dX7_isPoll_19
      · skip
        replace e_15 : r_9 = 0 := e_15
        subst e_15
        replace h_14 : ¬ (0 ≤ v.toInt ∧ v.toInt < 4) := h_14
        refine lv_if_eq (tgt := 18) hx hb dX7_isPoll_11 (by decide) (fun c_17 => ?_) (fun c_17 => ?_)
        · skip
          refine lv_iconst (v := 0) hx hb dX7_isPoll_18 (by decide) ?_
          exact W.zret (v := 0) (ty := .boolean) hx hb hr rfl (fun t ht hW => ⟨⟨0, (), rfl, Or.inr (⟨rfl, (by first | assumption | omega | decide | rfl)⟩), ⟨by rw [ht]; exact hP, hD⟩⟩, hS.F ht⟩) hS.2.2 dX7_isPoll_19
        · skip
          exact absurd (by decide) c_17
  · skip
    replace e_7 : r_1 = 0 := e_7
    subst e_7
    replace h_6 : ¬ (0 ≤ g.toInt ∧ g.toInt < 4) := h_6
    refine lv_if_eq (tgt := 18) hx hb dX7_isPoll_4 (by decide) (fun c_18 => ?_) (fun c_18 => ?_)
    · skip
      refine lv_iconst (v := 0) hx hb dX7_isPoll_18 (by decide) ?_
      exact W.zret (v := 0) (ty := .boolean) hx hb hr rfl (fun t ht hW => ⟨⟨0, (), rfl, Or.inr (⟨rfl, (by first | assumption | omega | decide | rfl)⟩), ⟨by rw [ht]; exact hP, hD⟩⟩, hS.F ht⟩) hS.2.2 dX7_isPoll_19
    · skip
      exact absurd (by decide) c_18
set_option maxHeartbeats 4000000 in
set_option maxRecDepth 100000 in
theorem c_X7_told (l : Launch) (dC : Nat → ClassId) (dI : Nat → Nat → Nat) (k : Nat → ClassId) (v : Int32) (sz : Nat)  : Met l yX7_told (wz yX7_told cX7_told 1 (some .long)) ({ frames := 0, cells := 0, slots := 0, locals := 0 }) (va_Pc [.int v] (zPre dC dI k (zTX k) [] sz)) (va_Ql (fun (r : Int64) (u : Unit) => (r.toInt = tl v)) (fun u t => zPost dC dI (va_A [] sz) [] t) (va_A [] sz)) 0 0 (va_A [] sz) := by
  refine Met.ofW (cc := cX7_told) (maxL := 1) (ret := (some .long)) (by decide) rfl ?_
  intro p e s m args below meth c s₁ B hml hv
  obtain ⟨rfl, hsz, hP, hK, hD0⟩ := hv
  have hx := B.exec
  have hb := B.bytes
  have hr := B.returns
  have hts := atoms_spec (ws := wz yX7_told cX7_told 1 (some .long)) B.pre
  have htb : ∀ w ∈ zw, w.before _ s = true := fun w h => hts w (List.mem_cons_of_mem _ h)
  have hown : s.vm.findClass RX7 = some m.cls := findClass_of_methodNamed B.named
  have hlocks := B.notSynchronized
  clear hts
  subst hsz
  have hD := hD0.self (sz := s.heap.size)
  generalize hAe : va_A [] s.heap.size = A at hD ⊢
  have hA : ∀ q : Nat, s.heap.size ≤ q → A q := fun q h => by rw [← hAe]; exact Or.inr h
  have hl := lv_entry ([.int v]) (n := 1) (Nat.le_of_ble_eq_true rfl)
  rw [lg_entry_eq]
  generalize (lg_sl ([.int v]) ++ List.replicate (1 - (lg_sl ([.int v])).length) Slot.unset).toArray = ls at hl ⊢
  have hl : lv_has ls 1 [(0, .int v)] := hl
  refine z_start2 (A := A) (w := []) hP (fun H locs hP hS => ?_)
  clear hD0 hAe
  refine lv_ldc2 (v := (-9223372036854775808)) hx hb hown (htb _ wmt4_119) dX7_told_0 ?_
  refine lv_iload_n hx hb dX7_told_3 rfl (lv_at hl 0 rfl) ?_
  refine lv_i2l (v := v.toInt64) hx hb dX7_told_4 rfl ?_
  refine lv_topl (fun x_1 ex_1 => ?_)
  have hx_1 : x_1.toInt = v.toInt := by rw [ex_1]; exact Jvm.Kit.i64_of_i32 _
  refine lv_lsub hx hb dX7_told_5 ?_
  refine lv_topl (fun x_2 ex_2 => ?_)
  exact W.lret (v := x_2) hx hb hr (fun t ht hW => ⟨⟨x_2, (), rfl, (by unfold tl; rw [ex_2, ex_1]), ⟨by rw [ht]; exact hP, hD⟩⟩, hS.F ht⟩) hS.2.2 dX7_told_6
set_option maxHeartbeats 4000000 in
set_option maxRecDepth 100000 in
theorem c_X7_divisor (l : Launch) (dC : Nat → ClassId) (dI : Nat → Nat → Nat) (k : Nat → ClassId) (x0 : Int64) (y0 : Int64) (sz : Nat) (h1 : (-4611686018427387904 < x0.toInt ∧ x0.toInt < 4611686018427387904)) (h2 : (-4611686018427387904 < y0.toInt ∧ y0.toInt < 4611686018427387904)) : Met l yX7_divisor (wz yX7_divisor cX7_divisor 10 (some .long)) ({ frames := 0, cells := 0, slots := 0, locals := 0 }) (va_Pc [.long x0, .long y0] (zPre dC dI k (zTX k) [] sz)) (va_Ql (fun (r : Int64) (u : Unit) => (r.toInt = (Nat.gcd x0.toInt.natAbs y0.toInt.natAbs : Int))) (fun u t => zPost dC dI (va_A [] sz) [] t) (va_A [] sz)) 0 0 (va_A [] sz) := by
  refine Met.ofW (cc := cX7_divisor) (maxL := 10) (ret := (some .long)) (by decide) rfl ?_
  intro p e s m args below meth c s₁ B hml hv
  obtain ⟨rfl, hsz, hP, hK, hD0⟩ := hv
  have hx := B.exec
  have hb := B.bytes
  have hr := B.returns
  have hts := atoms_spec (ws := wz yX7_divisor cX7_divisor 10 (some .long)) B.pre
  have htb : ∀ w ∈ zw, w.before _ s = true := fun w h => hts w (List.mem_cons_of_mem _ h)
  have hown : s.vm.findClass RX7 = some m.cls := findClass_of_methodNamed B.named
  have hlocks := B.notSynchronized
  clear hts
  subst hsz
  have hD := hD0.self (sz := s.heap.size)
  generalize hAe : va_A [] s.heap.size = A at hD ⊢
  have hA : ∀ q : Nat, s.heap.size ≤ q → A q := fun q h => by rw [← hAe]; exact Or.inr h
  have hl := lv_entry ([.long x0, .long y0]) (n := 10) (Nat.le_of_ble_eq_true rfl)
  rw [lg_entry_eq]
  generalize (lg_sl ([.long x0, .long y0]) ++ List.replicate (10 - (lg_sl ([.long x0, .long y0])).length) Slot.unset).toArray = ls at hl ⊢
  have hl : lv_has ls 10 [(0, .long x0), (2, .long y0)] := hl
  refine z_start2 (A := A) (w := []) hP (fun H locs hP hS => ?_)
  clear hD0 hAe
  refine lv_lload_n hx hb dX7_divisor_0 rfl (lv_at hl 0 rfl) ?_
  refine lv_lconst (v := 0) hx hb dX7_divisor_1 (by decide) ?_
  refine z_lcmp hx hb dX7_divisor_2 ?_
  refine lv_if_ge (tgt := 11) hx hb dX7_divisor_3 (by decide) (fun c_1 => ?_) (fun c_1 => ?_)
  · skip
    have hc_1 := zl_ge rfl (show (0 : Int64).toInt = 0 by decide) c_1
    refine lv_lload_n hx hb dX7_divisor_11 rfl (lv_at hl 0 rfl) ?_
    refine lv_lstore (lv' := [(4, .long x0), (0, .long x0), (2, .long y0)]) hx hb dX7_divisor_12 hl (by decide) rfl (fun ls hl => ?_)
    refine lv_lload_n hx hb dX7_divisor_14 rfl (lv_at hl 2 rfl) ?_
    refine lv_lconst (v := 0) hx hb dX7_divisor_15 (by decide) ?_
    refine z_lcmp hx hb dX7_divisor_16 ?_
    refine lv_if_ge (tgt := 25) hx hb dX7_divisor_17 (by decide) (fun c_2 => ?_) (fun c_2 => ?_)
    · skip
      have hc_2 := zl_ge rfl (show (0 : Int64).toInt = 0 by decide) c_2
      refine lv_lload_n hx hb dX7_divisor_25 rfl (lv_at hl 2 rfl) ?_
      refine lv_lstore (lv' := [(6, .long y0), (4, .long x0), (0, .long x0), (2, .long y0)]) hx hb dX7_divisor_26 hl (by decide) rfl (fun ls hl => ?_)
      obtain ⟨bg, ebg⟩ : ∃ x : Int64, x0 = x := ⟨_, rfl⟩
      obtain ⟨sm, esm⟩ : ∃ x : Int64, y0 = x := ⟨_, rfl⟩
      have hv28 : (0 ≤ bg.toInt ∧ bg.toInt < 4611686018427387904) ∧ (0 ≤ sm.toInt ∧ sm.toInt < 4611686018427387904) ∧ (Nat.gcd bg.toInt.natAbs sm.toInt.natAbs = Nat.gcd x0.toInt.natAbs y0.toInt.natAbs) := by subst ebg esm; exact ⟨(show 0 ≤ x0.toInt ∧ x0.toInt < 4611686018427387904 by omega), (show 0 ≤ y0.toInt ∧ y0.toInt < 4611686018427387904 by omega), (zg_cong (by omega) (by omega))⟩
      replace hl : lv_has ls 10 [(6, .long sm), (4, .long bg), (0, .long x0), (2, .long y0)] := by subst ebg esm; exact hl
      clear ebg esm
      obtain ⟨mm28, hm28⟩ : ∃ mm : Nat, mm = sm.toInt.toNat := ⟨_, rfl⟩
      refine z_cut2 hP hS hl ?_
      clear hl hP
      intro H locs ls hP hS hl
      induction mm28 using Nat.strongRecOn generalizing bg sm H locs ls with
      | _ mm28 ih28 =>
        obtain ⟨hb0, hs0, hgc⟩ := hv28
        refine lv_lload hx hb dX7_divisor_28 (lv_at hl 0 rfl) ?_
        refine lv_lconst (v := 0) hx hb dX7_divisor_30 (by decide) ?_
        refine z_lcmp hx hb dX7_divisor_31 ?_
        refine lv_if_eq (tgt := 53) hx hb dX7_divisor_32 (by decide) (fun c_3 => ?_) (fun c_3 => ?_)
        · skip
          have hc_3 := zl_eq rfl (show (0 : Int64).toInt = 0 by decide) c_3
          refine lv_lload hx hb dX7_divisor_53 (lv_at hl 1 rfl) ?_
          exact W.lret (v := bg) hx hb hr (fun t ht hW => ⟨⟨bg, (), rfl, (zg_end (by omega) hb0.1 hgc), ⟨by rw [ht]; exact hP, hD⟩⟩, hS.F ht⟩) hS.2.2 dX7_divisor_55
        · skip
          have hc_3 := zl_ne rfl (show (0 : Int64).toInt = 0 by decide) c_3
          refine lv_lload hx hb dX7_divisor_35 (lv_at hl 1 rfl) ?_
          refine lv_lload hx hb dX7_divisor_37 (lv_at hl 0 rfl) ?_
          refine lv_lrem hx hb dX7_divisor_39 (z_l0ne (by omega)) ?_
          refine lv_topl (fun x_4 ex_4 => ?_)
          have hx_4 : x_4.toInt = bg.toInt.tmod sm.toInt := by rw [ex_4]; exact Jvm.Kit.i64_rem bg sm
          obtain ⟨hg1, hg2, hg3⟩ := zg_step (show 0 ≤ bg.toInt by omega) (show 0 < sm.toInt by omega) hx_4
          refine lv_lstore (lv' := [(8, .long x_4), (6, .long sm), (4, .long bg), (0, .long x0), (2, .long y0)]) hx hb dX7_divisor_40 hl (by decide) rfl (fun ls hl => ?_)
          refine lv_lload hx hb dX7_divisor_42 (lv_at hl 1 rfl) ?_
          refine lv_lstore (lv' := [(4, .long sm), (8, .long x_4), (6, .long sm), (0, .long x0), (2, .long y0)]) hx hb dX7_divisor_44 hl (by decide) rfl (fun ls hl => ?_)
          refine lv_lload hx hb dX7_divisor_46 (lv_at hl 1 rfl) ?_
          refine lv_lstore (lv' := [(6, .long x_4), (4, .long sm), (8, .long x_4), (0, .long x0), (2, .long y0)]) hx hb dX7_divisor_48 hl (by decide) rfl (fun ls hl => ?_)
          refine lv_goto (tgt := 28) hx hb dX7_divisor_50 (by decide) ?_
          exact ih28 (x_4.toInt.toNat) (by omega) sm x_4 ⟨(show 0 ≤ sm.toInt ∧ sm.toInt < 4611686018427387904 by omega), (show 0 ≤ x_4.toInt ∧ x_4.toInt < 4611686018427387904 by omega), (hg1.trans hgc)⟩ rfl H locs ls hP hS (lv_sub hl [0, 1, 3, 4] rfl)
    · skip
      have hc_2 := zl_nge rfl (show (0 : Int64).toInt = 0 by decide) c_2
      refine lv_lload_n hx hb dX7_divisor_20 rfl (lv_at hl 2 rfl) ?_
      refine lv_lneg hx hb dX7_divisor_21 ?_
      refine lv_topl (fun x_5 ex_5 => ?_)
      have hx_5 : x_5.toInt = -y0.toInt := by rw [ex_5]; exact Jvm.Kit.i64_neg (by omega)
      refine lv_goto (tgt := 26) hx hb dX7_divisor_22 (by decide) ?_
      refine lv_lstore (lv' := [(6, .long x_5), (4, .long x0), (0, .long x0), (2, .long y0)]) hx hb dX7_divisor_26 hl (by decide) rfl (fun ls hl => ?_)
      obtain ⟨bg, ebg⟩ : ∃ x : Int64, x0 = x := ⟨_, rfl⟩
      obtain ⟨sm, esm⟩ : ∃ x : Int64, x_5 = x := ⟨_, rfl⟩
      have hv28 : (0 ≤ bg.toInt ∧ bg.toInt < 4611686018427387904) ∧ (0 ≤ sm.toInt ∧ sm.toInt < 4611686018427387904) ∧ (Nat.gcd bg.toInt.natAbs sm.toInt.natAbs = Nat.gcd x0.toInt.natAbs y0.toInt.natAbs) := by subst ebg esm; exact ⟨(show 0 ≤ x0.toInt ∧ x0.toInt < 4611686018427387904 by omega), (show 0 ≤ x_5.toInt ∧ x_5.toInt < 4611686018427387904 by omega), (zg_cong (by omega) (by omega))⟩
      replace hl : lv_has ls 10 [(6, .long sm), (4, .long bg), (0, .long x0), (2, .long y0)] := by subst ebg esm; exact hl
      clear ebg esm
      obtain ⟨mm28, hm28⟩ : ∃ mm : Nat, mm = sm.toInt.toNat := ⟨_, rfl⟩
      refine z_cut2 hP hS hl ?_
      clear hl hP
      intro H locs ls hP hS hl
      induction mm28 using Nat.strongRecOn generalizing bg sm H locs ls with
      | _ mm28 ih28 =>
        obtain ⟨hb0, hs0, hgc⟩ := hv28
        refine lv_lload hx hb dX7_divisor_28 (lv_at hl 0 rfl) ?_
        refine lv_lconst (v := 0) hx hb dX7_divisor_30 (by decide) ?_
        refine z_lcmp hx hb dX7_divisor_31 ?_
        refine lv_if_eq (tgt := 53) hx hb dX7_divisor_32 (by decide) (fun c_6 => ?_) (fun c_6 => ?_)
        · skip
          have hc_6 := zl_eq rfl (show (0 : Int64).toInt = 0 by decide) c_6
          refine lv_lload hx hb dX7_divisor_53 (lv_at hl 1 rfl) ?_
          exact W.lret (v := bg) hx hb hr (fun t ht hW => ⟨⟨bg, (), rfl, (zg_end (by omega) hb0.1 hgc), ⟨by rw [ht]; exact hP, hD⟩⟩, hS.F ht⟩) hS.2.2 dX7_divisor_55
        · skip
          have hc_6 := zl_ne rfl (show (0 : Int64).toInt = 0 by decide) c_6
          refine lv_lload hx hb dX7_divisor_35 (lv_at hl 1 rfl) ?_
          refine lv_lload hx hb dX7_divisor_37 (lv_at hl 0 rfl) ?_
          refine lv_lrem hx hb dX7_divisor_39 (z_l0ne (by omega)) ?_
          refine lv_topl (fun x_7 ex_7 => ?_)
          have hx_7 : x_7.toInt = bg.toInt.tmod sm.toInt := by rw [ex_7]; exact Jvm.Kit.i64_rem bg sm
          obtain ⟨hg1, hg2, hg3⟩ := zg_step (show 0 ≤ bg.toInt by omega) (show 0 < sm.toInt by omega) hx_7
          refine lv_lstore (lv' := [(8, .long x_7), (6, .long sm), (4, .long bg), (0, .long x0), (2, .long y0)]) hx hb dX7_divisor_40 hl (by decide) rfl (fun ls hl => ?_)
          refine lv_lload hx hb dX7_divisor_42 (lv_at hl 1 rfl) ?_
          refine lv_lstore (lv' := [(4, .long sm), (8, .long x_7), (6, .long sm), (0, .long x0), (2, .long y0)]) hx hb dX7_divisor_44 hl (by decide) rfl (fun ls hl => ?_)
          refine lv_lload hx hb dX7_divisor_46 (lv_at hl 1 rfl) ?_
          refine lv_lstore (lv' := [(6, .long x_7), (4, .long sm), (8, .long x_7), (0, .long x0), (2, .long y0)]) hx hb dX7_divisor_48 hl (by decide) rfl (fun ls hl => ?_)
          refine lv_goto (tgt := 28) hx hb dX7_divisor_50 (by decide) ?_
          exact ih28 (x_7.toInt.toNat) (by omega) sm x_7 ⟨(show 0 ≤ sm.toInt ∧ sm.toInt < 4611686018427387904 by omega), (show 0 ≤ x_7.toInt ∧ x_7.toInt < 4611686018427387904 by omega), (hg1.trans hgc)⟩ rfl H locs ls hP hS (lv_sub hl [0, 1, 3, 4] rfl)
  · skip
    have hc_1 := zl_nge rfl (show (0 : Int64).toInt = 0 by decide) c_1
    refine lv_lload_n hx hb dX7_divisor_6 rfl (lv_at hl 0 rfl) ?_
    refine lv_lneg hx hb dX7_divisor_7 ?_
    refine lv_topl (fun x_8 ex_8 => ?_)
    have hx_8 : x_8.toInt = -x0.toInt := by rw [ex_8]; exact Jvm.Kit.i64_neg (by omega)
    refine lv_goto (tgt := 12) hx hb dX7_divisor_8 (by decide) ?_
    refine lv_lstore (lv' := [(4, .long x_8), (0, .long x0), (2, .long y0)]) hx hb dX7_divisor_12 hl (by decide) rfl (fun ls hl => ?_)
    refine lv_lload_n hx hb dX7_divisor_14 rfl (lv_at hl 2 rfl) ?_
    refine lv_lconst (v := 0) hx hb dX7_divisor_15 (by decide) ?_
    refine z_lcmp hx hb dX7_divisor_16 ?_
    refine lv_if_ge (tgt := 25) hx hb dX7_divisor_17 (by decide) (fun c_9 => ?_) (fun c_9 => ?_)
    · skip
      have hc_9 := zl_ge rfl (show (0 : Int64).toInt = 0 by decide) c_9
      refine lv_lload_n hx hb dX7_divisor_25 rfl (lv_at hl 2 rfl) ?_
      refine lv_lstore (lv' := [(6, .long y0), (4, .long x_8), (0, .long x0), (2, .long y0)]) hx hb dX7_divisor_26 hl (by decide) rfl (fun ls hl => ?_)
      obtain ⟨bg, ebg⟩ : ∃ x : Int64, x_8 = x := ⟨_, rfl⟩
      obtain ⟨sm, esm⟩ : ∃ x : Int64, y0 = x := ⟨_, rfl⟩
      have hv28 : (0 ≤ bg.toInt ∧ bg.toInt < 4611686018427387904) ∧ (0 ≤ sm.toInt ∧ sm.toInt < 4611686018427387904) ∧ (Nat.gcd bg.toInt.natAbs sm.toInt.natAbs = Nat.gcd x0.toInt.natAbs y0.toInt.natAbs) := by subst ebg esm; exact ⟨(show 0 ≤ x_8.toInt ∧ x_8.toInt < 4611686018427387904 by omega), (show 0 ≤ y0.toInt ∧ y0.toInt < 4611686018427387904 by omega), (zg_cong (by omega) (by omega))⟩
      replace hl : lv_has ls 10 [(6, .long sm), (4, .long bg), (0, .long x0), (2, .long y0)] := by subst ebg esm; exact hl
      clear ebg esm
      obtain ⟨mm28, hm28⟩ : ∃ mm : Nat, mm = sm.toInt.toNat := ⟨_, rfl⟩
      refine z_cut2 hP hS hl ?_
      clear hl hP
      intro H locs ls hP hS hl
      induction mm28 using Nat.strongRecOn generalizing bg sm H locs ls with
      | _ mm28 ih28 =>
        obtain ⟨hb0, hs0, hgc⟩ := hv28
        refine lv_lload hx hb dX7_divisor_28 (lv_at hl 0 rfl) ?_
        refine lv_lconst (v := 0) hx hb dX7_divisor_30 (by decide) ?_
        refine z_lcmp hx hb dX7_divisor_31 ?_
        refine lv_if_eq (tgt := 53) hx hb dX7_divisor_32 (by decide) (fun c_10 => ?_) (fun c_10 => ?_)
        · skip
          have hc_10 := zl_eq rfl (show (0 : Int64).toInt = 0 by decide) c_10
          refine lv_lload hx hb dX7_divisor_53 (lv_at hl 1 rfl) ?_
          exact W.lret (v := bg) hx hb hr (fun t ht hW => ⟨⟨bg, (), rfl, (zg_end (by omega) hb0.1 hgc), ⟨by rw [ht]; exact hP, hD⟩⟩, hS.F ht⟩) hS.2.2 dX7_divisor_55
        · skip
          have hc_10 := zl_ne rfl (show (0 : Int64).toInt = 0 by decide) c_10
          refine lv_lload hx hb dX7_divisor_35 (lv_at hl 1 rfl) ?_
          refine lv_lload hx hb dX7_divisor_37 (lv_at hl 0 rfl) ?_
          refine lv_lrem hx hb dX7_divisor_39 (z_l0ne (by omega)) ?_
          refine lv_topl (fun x_11 ex_11 => ?_)
          have hx_11 : x_11.toInt = bg.toInt.tmod sm.toInt := by rw [ex_11]; exact Jvm.Kit.i64_rem bg sm
          obtain ⟨hg1, hg2, hg3⟩ := zg_step (show 0 ≤ bg.toInt by omega) (show 0 < sm.toInt by omega) hx_11
          refine lv_lstore (lv' := [(8, .long x_11), (6, .long sm), (4, .long bg), (0, .long x0), (2, .long y0)]) hx hb dX7_divisor_40 hl (by decide) rfl (fun ls hl => ?_)
          refine lv_lload hx hb dX7_divisor_42 (lv_at hl 1 rfl) ?_
          refine lv_lstore (lv' := [(4, .long sm), (8, .long x_11), (6, .long sm), (0, .long x0), (2, .long y0)]) hx hb dX7_divisor_44 hl (by decide) rfl (fun ls hl => ?_)
          refine lv_lload hx hb dX7_divisor_46 (lv_at hl 1 rfl) ?_
          refine lv_lstore (lv' := [(6, .long x_11), (4, .long sm), (8, .long x_11), (0, .long x0), (2, .long y0)]) hx hb dX7_divisor_48 hl (by decide) rfl (fun ls hl => ?_)
          refine lv_goto (tgt := 28) hx hb dX7_divisor_50 (by decide) ?_
          exact ih28 (x_11.toInt.toNat) (by omega) sm x_11 ⟨(show 0 ≤ sm.toInt ∧ sm.toInt < 4611686018427387904 by omega), (show 0 ≤ x_11.toInt ∧ x_11.toInt < 4611686018427387904 by omega), (hg1.trans hgc)⟩ rfl H locs ls hP hS (lv_sub hl [0, 1, 3, 4] rfl)
    · skip
      have hc_9 := zl_nge rfl (show (0 : Int64).toInt = 0 by decide) c_9
      refine lv_lload_n hx hb dX7_divisor_20 rfl (lv_at hl 2 rfl) ?_
      refine lv_lneg hx hb dX7_divisor_21 ?_
      refine lv_topl (fun x_12 ex_12 => ?_)
      have hx_12 : x_12.toInt = -y0.toInt := by rw [ex_12]; exact Jvm.Kit.i64_neg (by omega)
      refine lv_goto (tgt := 26) hx hb dX7_divisor_22 (by decide) ?_
      refine lv_lstore (lv' := [(6, .long x_12), (4, .long x_8), (0, .long x0), (2, .long y0)]) hx hb dX7_divisor_26 hl (by decide) rfl (fun ls hl => ?_)
      obtain ⟨bg, ebg⟩ : ∃ x : Int64, x_8 = x := ⟨_, rfl⟩
      obtain ⟨sm, esm⟩ : ∃ x : Int64, x_12 = x := ⟨_, rfl⟩
      have hv28 : (0 ≤ bg.toInt ∧ bg.toInt < 4611686018427387904) ∧ (0 ≤ sm.toInt ∧ sm.toInt < 4611686018427387904) ∧ (Nat.gcd bg.toInt.natAbs sm.toInt.natAbs = Nat.gcd x0.toInt.natAbs y0.toInt.natAbs) := by subst ebg esm; exact ⟨(show 0 ≤ x_8.toInt ∧ x_8.toInt < 4611686018427387904 by omega), (show 0 ≤ x_12.toInt ∧ x_12.toInt < 4611686018427387904 by omega), (zg_cong (by omega) (by omega))⟩
      replace hl : lv_has ls 10 [(6, .long sm), (4, .long bg), (0, .long x0), (2, .long y0)] := by subst ebg esm; exact hl
      clear ebg esm
      obtain ⟨mm28, hm28⟩ : ∃ mm : Nat, mm = sm.toInt.toNat := ⟨_, rfl⟩
      refine z_cut2 hP hS hl ?_
      clear hl hP
      intro H locs ls hP hS hl
      induction mm28 using Nat.strongRecOn generalizing bg sm H locs ls with
      | _ mm28 ih28 =>
        obtain ⟨hb0, hs0, hgc⟩ := hv28
        refine lv_lload hx hb dX7_divisor_28 (lv_at hl 0 rfl) ?_
        refine lv_lconst (v := 0) hx hb dX7_divisor_30 (by decide) ?_
        refine z_lcmp hx hb dX7_divisor_31 ?_
        refine lv_if_eq (tgt := 53) hx hb dX7_divisor_32 (by decide) (fun c_13 => ?_) (fun c_13 => ?_)
        · skip
          have hc_13 := zl_eq rfl (show (0 : Int64).toInt = 0 by decide) c_13
          refine lv_lload hx hb dX7_divisor_53 (lv_at hl 1 rfl) ?_
          exact W.lret (v := bg) hx hb hr (fun t ht hW => ⟨⟨bg, (), rfl, (zg_end (by omega) hb0.1 hgc), ⟨by rw [ht]; exact hP, hD⟩⟩, hS.F ht⟩) hS.2.2 dX7_divisor_55
        · skip
          have hc_13 := zl_ne rfl (show (0 : Int64).toInt = 0 by decide) c_13
          refine lv_lload hx hb dX7_divisor_35 (lv_at hl 1 rfl) ?_
          refine lv_lload hx hb dX7_divisor_37 (lv_at hl 0 rfl) ?_
          refine lv_lrem hx hb dX7_divisor_39 (z_l0ne (by omega)) ?_
          refine lv_topl (fun x_14 ex_14 => ?_)
          have hx_14 : x_14.toInt = bg.toInt.tmod sm.toInt := by rw [ex_14]; exact Jvm.Kit.i64_rem bg sm
          obtain ⟨hg1, hg2, hg3⟩ := zg_step (show 0 ≤ bg.toInt by omega) (show 0 < sm.toInt by omega) hx_14
          refine lv_lstore (lv' := [(8, .long x_14), (6, .long sm), (4, .long bg), (0, .long x0), (2, .long y0)]) hx hb dX7_divisor_40 hl (by decide) rfl (fun ls hl => ?_)
          refine lv_lload hx hb dX7_divisor_42 (lv_at hl 1 rfl) ?_
          refine lv_lstore (lv' := [(4, .long sm), (8, .long x_14), (6, .long sm), (0, .long x0), (2, .long y0)]) hx hb dX7_divisor_44 hl (by decide) rfl (fun ls hl => ?_)
          refine lv_lload hx hb dX7_divisor_46 (lv_at hl 1 rfl) ?_
          refine lv_lstore (lv' := [(6, .long x_14), (4, .long sm), (8, .long x_14), (0, .long x0), (2, .long y0)]) hx hb dX7_divisor_48 hl (by decide) rfl (fun ls hl => ?_)
          refine lv_goto (tgt := 28) hx hb dX7_divisor_50 (by decide) ?_
          exact ih28 (x_14.toInt.toNat) (by omega) sm x_14 ⟨(show 0 ≤ sm.toInt ∧ sm.toInt < 4611686018427387904 by omega), (show 0 ≤ x_14.toInt ∧ x_14.toInt < 4611686018427387904 by omega), (hg1.trans hgc)⟩ rfl H locs ls hP hS (lv_sub hl [0, 1, 3, 4] rfl)
