set_option maxHeartbeats 4000000 in
set_option maxRecDepth 100000 in
theorem c_X6_isDesign (l : Launch) (dC : Nat → ClassId) (dI : Nat → Nat → Nat) (k : Nat → ClassId) (v : Int32) (sz : Nat)  : Met l yX6_isDesign (wz yX6_isDesign cX6_isDesign 1 (some .boolean)) ({ frames := 0, cells := 0, slots := 0, locals := 0 }) (va_Pc [.int v] (zPre dC dI k (zTX k) [] sz)) (va_Qi (fun (r : Int32) (u : Unit) => (r = 1 ∧ (0 ≤ v.toInt ∧ v.toInt < 4)) ∨ (r = 0 ∧ (¬ (0 ≤ v.toInt ∧ v.toInt < 4)))) (fun u t => zPost dC dI (va_A [] sz) [] t) (va_A [] sz)) 0 0 (va_A [] sz) := by
  refine Met.ofW (cc := cX6_isDesign) (maxL := 1) (ret := (some .boolean)) (by decide) rfl ?_
  intro p e s m args below meth c s₁ B hml hv
  obtain ⟨rfl, hsz, hP, hK, hD0⟩ := hv
  have hx := B.exec
  have hb := B.bytes
  have hr := B.returns
  have hts := atoms_spec (ws := wz yX6_isDesign cX6_isDesign 1 (some .boolean)) B.pre
  have htb : ∀ w ∈ zw, w.before _ s = true := fun w h => hts w (List.mem_cons_of_mem _ h)
  have hown : s.vm.findClass RX6 = some m.cls := findClass_of_methodNamed B.named
  have hlocks := B.notSynchronized
  clear hts
  subst hsz
  have hD := hD0.self (sz := s.heap.size)
  generalize hAe : va_A [] s.heap.size = A at hD ⊢
  have hA : ∀ q : Nat, s.heap.size ≤ q → A q := fun q h => by rw [← hAe]; exact Or.inr h
  have hl := lv_entry ([.int v]) (n := 1) (Nat.le_of_ble_eq_true rfl)
  rw [lg_entry_eq]
  generalize (lg_sl ([.int v]) ++ List.replicate (1 - (lg_sl ([.int v])).length) Slot.unset).toArray = ls at hl ⊢
  have hl : lv_has ls 1 [(0, .int v)] := hl
  refine z_start2 (A := A) (w := []) hP (fun H locs hP hS => ?_)
  clear hD0 hAe
  refine lv_iload_n hx hb dX6_isDesign_0 rfl (lv_at hl 0 rfl) ?_
  refine lv_if_lt (tgt := 13) hx hb dX6_isDesign_1 (by decide) (fun c_1 => ?_) (fun c_1 => ?_)
  · skip
    have hc_1 := zb_lt rfl (show (0 : Int32).toInt = 0 by decide) c_1
    refine lv_iconst (v := 0) hx hb dX6_isDesign_13 (by decide) ?_
    exact W.zret (v := 0) (ty := .boolean) hx hb hr rfl (fun t ht hW => ⟨⟨0, (), rfl, Or.inr (⟨rfl, (by first | assumption | omega | decide | rfl)⟩), ⟨by rw [ht]; exact hP, hD⟩⟩, hS.F ht⟩) hS.2.2 dX6_isDesign_14
  · skip
    have hc_1 := zb_nlt rfl (show (0 : Int32).toInt = 0 by decide) c_1
    refine lv_iload_n hx hb dX6_isDesign_4 rfl (lv_at hl 0 rfl) ?_
    refine lv_iconst (v := 4) hx hb dX6_isDesign_5 (by decide) ?_
    refine lv_icmp_ge (tgt := 13) hx hb dX6_isDesign_6 (by decide) (fun c_2 => ?_) (fun c_2 => ?_)
    · skip
      have hc_2 := zb_le (show (4 : Int32).toInt = 4 by decide) rfl c_2
      refine lv_iconst (v := 0) hx hb dX6_isDesign_13 (by decide) ?_
      exact W.zret (v := 0) (ty := .boolean) hx hb hr rfl (fun t ht hW => ⟨⟨0, (), rfl, Or.inr (⟨rfl, (by first | assumption | omega | decide | rfl)⟩), ⟨by rw [ht]; exact hP, hD⟩⟩, hS.F ht⟩) hS.2.2 dX6_isDesign_14
    · skip
      have hc_2 := zb_nle (show (4 : Int32).toInt = 4 by decide) rfl c_2
      refine lv_iconst (v := 1) hx hb dX6_isDesign_9 (by decide) ?_
      refine lv_goto (tgt := 14) hx hb dX6_isDesign_10 (by decide) ?_
      exact W.zret (v := 1) (ty := .boolean) hx hb hr rfl (fun t ht hW => ⟨⟨1, (), rfl, Or.inl (⟨rfl, (by first | assumption | omega | decide | rfl)⟩), ⟨by rw [ht]; exact hP, hD⟩⟩, hS.F ht⟩) hS.2.2 dX6_isDesign_14
set_option maxHeartbeats 4000000 in
set_option maxRecDepth 100000 in
theorem c_X6_isPerson (l : Launch) (dC : Nat → ClassId) (dI : Nat → Nat → Nat) (k : Nat → ClassId) (v : Int32) (sz : Nat)  : Met l yX6_isPerson (wz yX6_isPerson cX6_isPerson 1 (some .boolean)) ({ frames := 0, cells := 0, slots := 0, locals := 0 }) (va_Pc [.int v] (zPre dC dI k (zTX k) [] sz)) (va_Qi (fun (r : Int32) (u : Unit) => (r = 1 ∧ (0 ≤ v.toInt ∧ v.toInt < 24)) ∨ (r = 0 ∧ (¬ (0 ≤ v.toInt ∧ v.toInt < 24)))) (fun u t => zPost dC dI (va_A [] sz) [] t) (va_A [] sz)) 0 0 (va_A [] sz) := by
  refine Met.ofW (cc := cX6_isPerson) (maxL := 1) (ret := (some .boolean)) (by decide) rfl ?_
  intro p e s m args below meth c s₁ B hml hv
  obtain ⟨rfl, hsz, hP, hK, hD0⟩ := hv
  have hx := B.exec
  have hb := B.bytes
  have hr := B.returns
  have hts := atoms_spec (ws := wz yX6_isPerson cX6_isPerson 1 (some .boolean)) B.pre
  have htb : ∀ w ∈ zw, w.before _ s = true := fun w h => hts w (List.mem_cons_of_mem _ h)
  have hown : s.vm.findClass RX6 = some m.cls := findClass_of_methodNamed B.named
  have hlocks := B.notSynchronized
  clear hts
  subst hsz
  have hD := hD0.self (sz := s.heap.size)
  generalize hAe : va_A [] s.heap.size = A at hD ⊢
  have hA : ∀ q : Nat, s.heap.size ≤ q → A q := fun q h => by rw [← hAe]; exact Or.inr h
  have hl := lv_entry ([.int v]) (n := 1) (Nat.le_of_ble_eq_true rfl)
  rw [lg_entry_eq]
  generalize (lg_sl ([.int v]) ++ List.replicate (1 - (lg_sl ([.int v])).length) Slot.unset).toArray = ls at hl ⊢
  have hl : lv_has ls 1 [(0, .int v)] := hl
  refine z_start2 (A := A) (w := []) hP (fun H locs hP hS => ?_)
  clear hD0 hAe
  refine lv_iload_n hx hb dX6_isPerson_0 rfl (lv_at hl 0 rfl) ?_
  refine lv_if_lt (tgt := 14) hx hb dX6_isPerson_1 (by decide) (fun c_1 => ?_) (fun c_1 => ?_)
  · skip
    have hc_1 := zb_lt rfl (show (0 : Int32).toInt = 0 by decide) c_1
    refine lv_iconst (v := 0) hx hb dX6_isPerson_14 (by decide) ?_
    exact W.zret (v := 0) (ty := .boolean) hx hb hr rfl (fun t ht hW => ⟨⟨0, (), rfl, Or.inr (⟨rfl, (by first | assumption | omega | decide | rfl)⟩), ⟨by rw [ht]; exact hP, hD⟩⟩, hS.F ht⟩) hS.2.2 dX6_isPerson_15
  · skip
    have hc_1 := zb_nlt rfl (show (0 : Int32).toInt = 0 by decide) c_1
    refine lv_iload_n hx hb dX6_isPerson_4 rfl (lv_at hl 0 rfl) ?_
    refine lv_bipush (v := 24) hx hb dX6_isPerson_5 (by decide) ?_
    refine lv_icmp_ge (tgt := 14) hx hb dX6_isPerson_7 (by decide) (fun c_2 => ?_) (fun c_2 => ?_)
    · skip
      have hc_2 := zb_le (show (24 : Int32).toInt = 24 by decide) rfl c_2
      refine lv_iconst (v := 0) hx hb dX6_isPerson_14 (by decide) ?_
      exact W.zret (v := 0) (ty := .boolean) hx hb hr rfl (fun t ht hW => ⟨⟨0, (), rfl, Or.inr (⟨rfl, (by first | assumption | omega | decide | rfl)⟩), ⟨by rw [ht]; exact hP, hD⟩⟩, hS.F ht⟩) hS.2.2 dX6_isPerson_15
    · skip
      have hc_2 := zb_nle (show (24 : Int32).toInt = 24 by decide) rfl c_2
      refine lv_iconst (v := 1) hx hb dX6_isPerson_10 (by decide) ?_
      refine lv_goto (tgt := 15) hx hb dX6_isPerson_11 (by decide) ?_
      exact W.zret (v := 1) (ty := .boolean) hx hb hr rfl (fun t ht hW => ⟨⟨1, (), rfl, Or.inl (⟨rfl, (by first | assumption | omega | decide | rfl)⟩), ⟨by rw [ht]; exact hP, hD⟩⟩, hS.F ht⟩) hS.2.2 dX6_isPerson_15
set_option maxHeartbeats 4000000 in
set_option maxRecDepth 100000 in
theorem c_X6_isGroup (l : Launch) (dC : Nat → ClassId) (dI : Nat → Nat → Nat) (k : Nat → ClassId) (v : Int32) (sz : Nat)  : Met l yX6_isGroup (wz yX6_isGroup cX6_isGroup 1 (some .boolean)) ({ frames := 0, cells := 0, slots := 0, locals := 0 }) (va_Pc [.int v] (zPre dC dI k (zTX k) [] sz)) (va_Qi (fun (r : Int32) (u : Unit) => (r = 1 ∧ (0 ≤ v.toInt ∧ v.toInt < 4)) ∨ (r = 0 ∧ (¬ (0 ≤ v.toInt ∧ v.toInt < 4)))) (fun u t => zPost dC dI (va_A [] sz) [] t) (va_A [] sz)) 0 0 (va_A [] sz) := by
  refine Met.ofW (cc := cX6_isGroup) (maxL := 1) (ret := (some .boolean)) (by decide) rfl ?_
  intro p e s m args below meth c s₁ B hml hv
  obtain ⟨rfl, hsz, hP, hK, hD0⟩ := hv
  have hx := B.exec
  have hb := B.bytes
  have hr := B.returns
  have hts := atoms_spec (ws := wz yX6_isGroup cX6_isGroup 1 (some .boolean)) B.pre
  have htb : ∀ w ∈ zw, w.before _ s = true := fun w h => hts w (List.mem_cons_of_mem _ h)
  have hown : s.vm.findClass RX6 = some m.cls := findClass_of_methodNamed B.named
  have hlocks := B.notSynchronized
  clear hts
  subst hsz
  have hD := hD0.self (sz := s.heap.size)
  generalize hAe : va_A [] s.heap.size = A at hD ⊢
  have hA : ∀ q : Nat, s.heap.size ≤ q → A q := fun q h => by rw [← hAe]; exact Or.inr h
  have hl := lv_entry ([.int v]) (n := 1) (Nat.le_of_ble_eq_true rfl)
  rw [lg_entry_eq]
  generalize (lg_sl ([.int v]) ++ List.replicate (1 - (lg_sl ([.int v])).length) Slot.unset).toArray = ls at hl ⊢
  have hl : lv_has ls 1 [(0, .int v)] := hl
  refine z_start2 (A := A) (w := []) hP (fun H locs hP hS => ?_)
  clear hD0 hAe
  refine lv_iload_n hx hb dX6_isGroup_0 rfl (lv_at hl 0 rfl) ?_
  refine lv_if_lt (tgt := 13) hx hb dX6_isGroup_1 (by decide) (fun c_1 => ?_) (fun c_1 => ?_)
  · skip
    have hc_1 := zb_lt rfl (show (0 : Int32).toInt = 0 by decide) c_1
    refine lv_iconst (v := 0) hx hb dX6_isGroup_13 (by decide) ?_
    exact W.zret (v := 0) (ty := .boolean) hx hb hr rfl (fun t ht hW => ⟨⟨0, (), rfl, Or.inr (⟨rfl, (by first | assumption | omega | decide | rfl)⟩), ⟨by rw [ht]; exact hP, hD⟩⟩, hS.F ht⟩) hS.2.2 dX6_isGroup_14
  · skip
    have hc_1 := zb_nlt rfl (show (0 : Int32).toInt = 0 by decide) c_1
    refine lv_iload_n hx hb dX6_isGroup_4 rfl (lv_at hl 0 rfl) ?_
    refine lv_iconst (v := 4) hx hb dX6_isGroup_5 (by decide) ?_
    refine lv_icmp_ge (tgt := 13) hx hb dX6_isGroup_6 (by decide) (fun c_2 => ?_) (fun c_2 => ?_)
    · skip
      have hc_2 := zb_le (show (4 : Int32).toInt = 4 by decide) rfl c_2
      refine lv_iconst (v := 0) hx hb dX6_isGroup_13 (by decide) ?_
      exact W.zret (v := 0) (ty := .boolean) hx hb hr rfl (fun t ht hW => ⟨⟨0, (), rfl, Or.inr (⟨rfl, (by first | assumption | omega | decide | rfl)⟩), ⟨by rw [ht]; exact hP, hD⟩⟩, hS.F ht⟩) hS.2.2 dX6_isGroup_14
    · skip
      have hc_2 := zb_nle (show (4 : Int32).toInt = 4 by decide) rfl c_2
      refine lv_iconst (v := 1) hx hb dX6_isGroup_9 (by decide) ?_
      refine lv_goto (tgt := 14) hx hb dX6_isGroup_10 (by decide) ?_
      exact W.zret (v := 1) (ty := .boolean) hx hb hr rfl (fun t ht hW => ⟨⟨1, (), rfl, Or.inl (⟨rfl, (by first | assumption | omega | decide | rfl)⟩), ⟨by rw [ht]; exact hP, hD⟩⟩, hS.F ht⟩) hS.2.2 dX6_isGroup_14
set_option maxHeartbeats 4000000 in
set_option maxRecDepth 100000 in
theorem c_X6_isSheet (l : Launch) (dC : Nat → ClassId) (dI : Nat → Nat → Nat) (k : Nat → ClassId) (v : Int32) (sz : Nat)  : Met l yX6_isSheet (wz yX6_isSheet cX6_isSheet 1 (some .boolean)) ({ frames := 0, cells := 0, slots := 0, locals := 0 }) (va_Pc [.int v] (zPre dC dI k (zTX k) [] sz)) (va_Qi (fun (r : Int32) (u : Unit) => (r = 1 ∧ (0 ≤ v.toInt ∧ v.toInt < 4)) ∨ (r = 0 ∧ (¬ (0 ≤ v.toInt ∧ v.toInt < 4)))) (fun u t => zPost dC dI (va_A [] sz) [] t) (va_A [] sz)) 0 0 (va_A [] sz) := by
  refine Met.ofW (cc := cX6_isSheet) (maxL := 1) (ret := (some .boolean)) (by decide) rfl ?_
  intro p e s m args below meth c s₁ B hml hv
  obtain ⟨rfl, hsz, hP, hK, hD0⟩ := hv
  have hx := B.exec
  have hb := B.bytes
  have hr := B.returns
  have hts := atoms_spec (ws := wz yX6_isSheet cX6_isSheet 1 (some .boolean)) B.pre
  have htb : ∀ w ∈ zw, w.before _ s = true := fun w h => hts w (List.mem_cons_of_mem _ h)
  have hown : s.vm.findClass RX6 = some m.cls := findClass_of_methodNamed B.named
  have hlocks := B.notSynchronized
  clear hts
  subst hsz
  have hD := hD0.self (sz := s.heap.size)
  generalize hAe : va_A [] s.heap.size = A at hD ⊢
  have hA : ∀ q : Nat, s.heap.size ≤ q → A q := fun q h => by rw [← hAe]; exact Or.inr h
  have hl := lv_entry ([.int v]) (n := 1) (Nat.le_of_ble_eq_true rfl)
  rw [lg_entry_eq]
  generalize (lg_sl ([.int v]) ++ List.replicate (1 - (lg_sl ([.int v])).length) Slot.unset).toArray = ls at hl ⊢
  have hl : lv_has ls 1 [(0, .int v)] := hl
  refine z_start2 (A := A) (w := []) hP (fun H locs hP hS => ?_)
  clear hD0 hAe
  refine lv_iload_n hx hb dX6_isSheet_0 rfl (lv_at hl 0 rfl) ?_
  refine lv_if_lt (tgt := 13) hx hb dX6_isSheet_1 (by decide) (fun c_1 => ?_) (fun c_1 => ?_)
  · skip
    have hc_1 := zb_lt rfl (show (0 : Int32).toInt = 0 by decide) c_1
    refine lv_iconst (v := 0) hx hb dX6_isSheet_13 (by decide) ?_
    exact W.zret (v := 0) (ty := .boolean) hx hb hr rfl (fun t ht hW => ⟨⟨0, (), rfl, Or.inr (⟨rfl, (by first | assumption | omega | decide | rfl)⟩), ⟨by rw [ht]; exact hP, hD⟩⟩, hS.F ht⟩) hS.2.2 dX6_isSheet_14
  · skip
    have hc_1 := zb_nlt rfl (show (0 : Int32).toInt = 0 by decide) c_1
    refine lv_iload_n hx hb dX6_isSheet_4 rfl (lv_at hl 0 rfl) ?_
    refine lv_iconst (v := 4) hx hb dX6_isSheet_5 (by decide) ?_
    refine lv_icmp_ge (tgt := 13) hx hb dX6_isSheet_6 (by decide) (fun c_2 => ?_) (fun c_2 => ?_)
    · skip
      have hc_2 := zb_le (show (4 : Int32).toInt = 4 by decide) rfl c_2
      refine lv_iconst (v := 0) hx hb dX6_isSheet_13 (by decide) ?_
      exact W.zret (v := 0) (ty := .boolean) hx hb hr rfl (fun t ht hW => ⟨⟨0, (), rfl, Or.inr (⟨rfl, (by first | assumption | omega | decide | rfl)⟩), ⟨by rw [ht]; exact hP, hD⟩⟩, hS.F ht⟩) hS.2.2 dX6_isSheet_14
    · skip
      have hc_2 := zb_nle (show (4 : Int32).toInt = 4 by decide) rfl c_2
      refine lv_iconst (v := 1) hx hb dX6_isSheet_9 (by decide) ?_
      refine lv_goto (tgt := 14) hx hb dX6_isSheet_10 (by decide) ?_
      exact W.zret (v := 1) (ty := .boolean) hx hb hr rfl (fun t ht hW => ⟨⟨1, (), rfl, Or.inl (⟨rfl, (by first | assumption | omega | decide | rfl)⟩), ⟨by rw [ht]; exact hP, hD⟩⟩, hS.F ht⟩) hS.2.2 dX6_isSheet_14
set_option maxHeartbeats 4000000 in
set_option maxRecDepth 100000 in
theorem c_X6_isType (l : Launch) (dC : Nat → ClassId) (dI : Nat → Nat → Nat) (k : Nat → ClassId) (v : Int32) (sz : Nat)  : Met l yX6_isType (wz yX6_isType cX6_isType 1 (some .boolean)) ({ frames := 0, cells := 0, slots := 0, locals := 0 }) (va_Pc [.int v] (zPre dC dI k (zTX k) [] sz)) (va_Qi (fun (r : Int32) (u : Unit) => (r = 1 ∧ (0 ≤ v.toInt ∧ v.toInt < 3)) ∨ (r = 0 ∧ (¬ (0 ≤ v.toInt ∧ v.toInt < 3)))) (fun u t => zPost dC dI (va_A [] sz) [] t) (va_A [] sz)) 0 0 (va_A [] sz) := by
  refine Met.ofW (cc := cX6_isType) (maxL := 1) (ret := (some .boolean)) (by decide) rfl ?_
  intro p e s m args below meth c s₁ B hml hv
  obtain ⟨rfl, hsz, hP, hK, hD0⟩ := hv
  have hx := B.exec
  have hb := B.bytes
  have hr := B.returns
  have hts := atoms_spec (ws := wz yX6_isType cX6_isType 1 (some .boolean)) B.pre
  have htb : ∀ w ∈ zw, w.before _ s = true := fun w h => hts w (List.mem_cons_of_mem _ h)
  have hown : s.vm.findClass RX6 = some m.cls := findClass_of_methodNamed B.named
  have hlocks := B.notSynchronized
  clear hts
  subst hsz
  have hD := hD0.self (sz := s.heap.size)
  generalize hAe : va_A [] s.heap.size = A at hD ⊢
  have hA : ∀ q : Nat, s.heap.size ≤ q → A q := fun q h => by rw [← hAe]; exact Or.inr h
  have hl := lv_entry ([.int v]) (n := 1) (Nat.le_of_ble_eq_true rfl)
  rw [lg_entry_eq]
  generalize (lg_sl ([.int v]) ++ List.replicate (1 - (lg_sl ([.int v])).length) Slot.unset).toArray = ls at hl ⊢
  have hl : lv_has ls 1 [(0, .int v)] := hl
  refine z_start2 (A := A) (w := []) hP (fun H locs hP hS => ?_)
  clear hD0 hAe
  refine lv_iload_n hx hb dX6_isType_0 rfl (lv_at hl 0 rfl) ?_
  refine lv_if_lt (tgt := 13) hx hb dX6_isType_1 (by decide) (fun c_1 => ?_) (fun c_1 => ?_)
  · skip
    have hc_1 := zb_lt rfl (show (0 : Int32).toInt = 0 by decide) c_1
    refine lv_iconst (v := 0) hx hb dX6_isType_13 (by decide) ?_
    exact W.zret (v := 0) (ty := .boolean) hx hb hr rfl (fun t ht hW => ⟨⟨0, (), rfl, Or.inr (⟨rfl, (by first | assumption | omega | decide | rfl)⟩), ⟨by rw [ht]; exact hP, hD⟩⟩, hS.F ht⟩) hS.2.2 dX6_isType_14
  · skip
    have hc_1 := zb_nlt rfl (show (0 : Int32).toInt = 0 by decide) c_1
    refine lv_iload_n hx hb dX6_isType_4 rfl (lv_at hl 0 rfl) ?_
    refine lv_iconst (v := 3) hx hb dX6_isType_5 (by decide) ?_
    refine lv_icmp_ge (tgt := 13) hx hb dX6_isType_6 (by decide) (fun c_2 => ?_) (fun c_2 => ?_)
    · skip
      have hc_2 := zb_le (show (3 : Int32).toInt = 3 by decide) rfl c_2
      refine lv_iconst (v := 0) hx hb dX6_isType_13 (by decide) ?_
      exact W.zret (v := 0) (ty := .boolean) hx hb hr rfl (fun t ht hW => ⟨⟨0, (), rfl, Or.inr (⟨rfl, (by first | assumption | omega | decide | rfl)⟩), ⟨by rw [ht]; exact hP, hD⟩⟩, hS.F ht⟩) hS.2.2 dX6_isType_14
    · skip
      have hc_2 := zb_nle (show (3 : Int32).toInt = 3 by decide) rfl c_2
      refine lv_iconst (v := 1) hx hb dX6_isType_9 (by decide) ?_
      refine lv_goto (tgt := 14) hx hb dX6_isType_10 (by decide) ?_
      exact W.zret (v := 1) (ty := .boolean) hx hb hr rfl (fun t ht hW => ⟨⟨1, (), rfl, Or.inl (⟨rfl, (by first | assumption | omega | decide | rfl)⟩), ⟨by rw [ht]; exact hP, hD⟩⟩, hS.F ht⟩) hS.2.2 dX6_isType_14
set_option maxHeartbeats 4000000 in
set_option maxRecDepth 100000 in
theorem c_X6_isEither (l : Launch) (dC : Nat → ClassId) (dI : Nat → Nat → Nat) (k : Nat → ClassId) (v : Int32) (sz : Nat)  : Met l yX6_isEither (wz yX6_isEither cX6_isEither 1 (some .boolean)) ({ frames := 0, cells := 0, slots := 0, locals := 0 }) (va_Pc [.int v] (zPre dC dI k (zTX k) [] sz)) (va_Qi (fun (r : Int32) (u : Unit) => (r = 1 ∧ (0 ≤ v.toInt ∧ v.toInt < 2)) ∨ (r = 0 ∧ (¬ (0 ≤ v.toInt ∧ v.toInt < 2)))) (fun u t => zPost dC dI (va_A [] sz) [] t) (va_A [] sz)) 0 0 (va_A [] sz) := by
  refine Met.ofW (cc := cX6_isEither) (maxL := 1) (ret := (some .boolean)) (by decide) rfl ?_
  intro p e s m args below meth c s₁ B hml hv
  obtain ⟨rfl, hsz, hP, hK, hD0⟩ := hv
  have hx := B.exec
  have hb := B.bytes
  have hr := B.returns
  have hts := atoms_spec (ws := wz yX6_isEither cX6_isEither 1 (some .boolean)) B.pre
  have htb : ∀ w ∈ zw, w.before _ s = true := fun w h => hts w (List.mem_cons_of_mem _ h)
  have hown : s.vm.findClass RX6 = some m.cls := findClass_of_methodNamed B.named
  have hlocks := B.notSynchronized
  clear hts
  subst hsz
  have hD := hD0.self (sz := s.heap.size)
  generalize hAe : va_A [] s.heap.size = A at hD ⊢
  have hA : ∀ q : Nat, s.heap.size ≤ q → A q := fun q h => by rw [← hAe]; exact Or.inr h
  have hl := lv_entry ([.int v]) (n := 1) (Nat.le_of_ble_eq_true rfl)
  rw [lg_entry_eq]
  generalize (lg_sl ([.int v]) ++ List.replicate (1 - (lg_sl ([.int v])).length) Slot.unset).toArray = ls at hl ⊢
  have hl : lv_has ls 1 [(0, .int v)] := hl
  refine z_start2 (A := A) (w := []) hP (fun H locs hP hS => ?_)
  clear hD0 hAe
  refine lv_iload_n hx hb dX6_isEither_0 rfl (lv_at hl 0 rfl) ?_
  refine lv_if_eq (tgt := 9) hx hb dX6_isEither_1 (by decide) (fun c_1 => ?_) (fun c_1 => ?_)
  · skip
    have hc_1 := zb_eq rfl (show (0 : Int32).toInt = 0 by decide) c_1
    refine lv_iconst (v := 1) hx hb dX6_isEither_9 (by decide) ?_
    refine lv_goto (tgt := 14) hx hb dX6_isEither_10 (by decide) ?_
    exact W.zret (v := 1) (ty := .boolean) hx hb hr rfl (fun t ht hW => ⟨⟨1, (), rfl, Or.inl (⟨rfl, (by first | assumption | omega | decide | rfl)⟩), ⟨by rw [ht]; exact hP, hD⟩⟩, hS.F ht⟩) hS.2.2 dX6_isEither_14
  · skip
    have hc_1 := zb_ne rfl (show (0 : Int32).toInt = 0 by decide) c_1
    refine lv_iload_n hx hb dX6_isEither_4 rfl (lv_at hl 0 rfl) ?_
    refine lv_iconst (v := 1) hx hb dX6_isEither_5 (by decide) ?_
    refine lv_icmp_ne (tgt := 13) hx hb dX6_isEither_6 (by decide) (fun c_2 => ?_) (fun c_2 => ?_)
    · skip
      have hc_2 := zb_ne rfl (show (1 : Int32).toInt = 1 by decide) c_2
      refine lv_iconst (v := 0) hx hb dX6_isEither_13 (by decide) ?_
      exact W.zret (v := 0) (ty := .boolean) hx hb hr rfl (fun t ht hW => ⟨⟨0, (), rfl, Or.inr (⟨rfl, (by first | assumption | omega | decide | rfl)⟩), ⟨by rw [ht]; exact hP, hD⟩⟩, hS.F ht⟩) hS.2.2 dX6_isEither_14
    · skip
      have hc_2 := zb_eq rfl (show (1 : Int32).toInt = 1 by decide) c_2
      refine lv_iconst (v := 1) hx hb dX6_isEither_9 (by decide) ?_
      refine lv_goto (tgt := 14) hx hb dX6_isEither_10 (by decide) ?_
      exact W.zret (v := 1) (ty := .boolean) hx hb hr rfl (fun t ht hW => ⟨⟨1, (), rfl, Or.inl (⟨rfl, (by first | assumption | omega | decide | rfl)⟩), ⟨by rw [ht]; exact hP, hD⟩⟩, hS.F ht⟩) hS.2.2 dX6_isEither_14
set_option maxHeartbeats 4000000 in
set_option maxRecDepth 100000 in
theorem c_X6_asLong (l : Launch) (dC : Nat → ClassId) (dI : Nat → Nat → Nat) (k : Nat → ClassId) (v : Int32) (sz : Nat)  : Met l yX6_asLong (wz yX6_asLong cX6_asLong 1 (some .long)) ({ frames := 0, cells := 0, slots := 0, locals := 0 }) (va_Pc [.int v] (zPre dC dI k (zTX k) [] sz)) (va_Ql (fun (r : Int64) (u : Unit) => (r.toInt = tl v)) (fun u t => zPost dC dI (va_A [] sz) [] t) (va_A [] sz)) 0 0 (va_A [] sz) := by
  refine Met.ofW (cc := cX6_asLong) (maxL := 1) (ret := (some .long)) (by decide) rfl ?_
  intro p e s m args below meth c s₁ B hml hv
  obtain ⟨rfl, hsz, hP, hK, hD0⟩ := hv
  have hx := B.exec
  have hb := B.bytes
  have hr := B.returns
  have hts := atoms_spec (ws := wz yX6_asLong cX6_asLong 1 (some .long)) B.pre
  have htb : ∀ w ∈ zw, w.before _ s = true := fun w h => hts w (List.mem_cons_of_mem _ h)
  have hown : s.vm.findClass RX6 = some m.cls := findClass_of_methodNamed B.named
  have hlocks := B.notSynchronized
  clear hts
  subst hsz
  have hD := hD0.self (sz := s.heap.size)
  generalize hAe : va_A [] s.heap.size = A at hD ⊢
  have hA : ∀ q : Nat, s.heap.size ≤ q → A q := fun q h => by rw [← hAe]; exact Or.inr h
  have hl := lv_entry ([.int v]) (n := 1) (Nat.le_of_ble_eq_true rfl)
  rw [lg_entry_eq]
  generalize (lg_sl ([.int v]) ++ List.replicate (1 - (lg_sl ([.int v])).length) Slot.unset).toArray = ls at hl ⊢
  have hl : lv_has ls 1 [(0, .int v)] := hl
  refine z_start2 (A := A) (w := []) hP (fun H locs hP hS => ?_)
  clear hD0 hAe
  refine lv_ldc2 (v := (-9223372036854775808)) hx hb hown (htb _ wmt2_54) dX6_asLong_0 ?_
  refine lv_iload_n hx hb dX6_asLong_3 rfl (lv_at hl 0 rfl) ?_
  refine lv_i2l (v := v.toInt64) hx hb dX6_asLong_4 rfl ?_
  refine lv_topl (fun x_1 ex_1 => ?_)
  have hx_1 : x_1.toInt = v.toInt := by rw [ex_1]; exact Jvm.Kit.i64_of_i32 _
  refine lv_lsub hx hb dX6_asLong_5 ?_
  refine lv_topl (fun x_2 ex_2 => ?_)
  exact W.lret (v := x_2) hx hb hr (fun t ht hW => ⟨⟨x_2, (), rfl, (by unfold tl; rw [ex_2, ex_1]), ⟨by rw [ht]; exact hP, hD⟩⟩, hS.F ht⟩) hS.2.2 dX6_asLong_6
set_option maxHeartbeats 4000000 in
set_option maxRecDepth 100000 in
theorem c_X6_commonDivisor (l : Launch) (dC : Nat → ClassId) (dI : Nat → Nat → Nat) (k : Nat → ClassId) (a : Int64) (b : Int64) (sz : Nat)  : Met l yX6_commonDivisor (wz yX6_commonDivisor cX6_commonDivisor 11 (some .long)) ({ frames := 1, cells := 0, slots := 0, locals := 13 }) (va_Pc [.long a, .long b] (zPre dC dI k (zTX k) [] sz)) (va_Ql (fun (r : Int64) (u : Unit) => True) (fun u t => zPost dC dI (va_A [] sz) [] t) (va_A [] sz)) 0 0 (va_A [] sz) := by
  refine Met.ofW (cc := cX6_commonDivisor) (maxL := 11) (ret := (some .long)) (by decide) rfl ?_
  intro p e s m args below meth c s₁ B hml hv
  obtain ⟨rfl, hsz, hP, hK, hD0⟩ := hv
  have hx := B.exec
  have hb := B.bytes
  have hr := B.returns
  have hts := atoms_spec (ws := wz yX6_commonDivisor cX6_commonDivisor 11 (some .long)) B.pre
  have htb : ∀ w ∈ zw, w.before _ s = true := fun w h => hts w (List.mem_cons_of_mem _ h)
  have hown : s.vm.findClass RX6 = some m.cls := findClass_of_methodNamed B.named
  have hlocks := B.notSynchronized
  clear hts
  subst hsz
  have hD := hD0.self (sz := s.heap.size)
  generalize hAe : va_A [] s.heap.size = A at hD ⊢
  have hA : ∀ q : Nat, s.heap.size ≤ q → A q := fun q h => by rw [← hAe]; exact Or.inr h
  have hl := lv_entry ([.long a, .long b]) (n := 11) (Nat.le_of_ble_eq_true rfl)
  rw [lg_entry_eq]
  generalize (lg_sl ([.long a, .long b]) ++ List.replicate (11 - (lg_sl ([.long a, .long b])).length) Slot.unset).toArray = ls at hl ⊢
  have hl : lv_has ls 11 [(0, .long a), (2, .long b)] := hl
  refine z_start2 (A := A) (w := []) hP (fun H locs hP hS => ?_)
  clear hD0 hAe
  refine lv_lload_n hx hb dX6_commonDivisor_0 rfl (lv_at hl 0 rfl) ?_
  refine va_mabs_long hx hb (hml.trans hl.1.symm) hown (htb _ wmt2_11) (htb _ wmt2_12) (htb _ wmt1_10) (htb _ wmt2_13) (Nat.le_of_ble_eq_true rfl) (Nat.le_of_ble_eq_true rfl) (Nat.le_of_ble_eq_true rfl) (Nat.le_of_ble_eq_true rfl) dX6_commonDivisor_1 ?_
  refine lv_topl (fun x_1 ex_1 => ?_)
  refine lv_lstore (lv' := [(4, .long x_1), (0, .long a), (2, .long b)]) hx hb dX6_commonDivisor_4 hl (by decide) rfl (fun ls hl => ?_)
  refine lv_lload_n hx hb dX6_commonDivisor_6 rfl (lv_at hl 2 rfl) ?_
  refine va_mabs_long hx hb (hml.trans hl.1.symm) hown (htb _ wmt2_11) (htb _ wmt2_12) (htb _ wmt1_10) (htb _ wmt2_13) (Nat.le_of_ble_eq_true rfl) (Nat.le_of_ble_eq_true rfl) (Nat.le_of_ble_eq_true rfl) (Nat.le_of_ble_eq_true rfl) dX6_commonDivisor_7 ?_
  refine lv_topl (fun x_2 ex_2 => ?_)
  refine lv_lstore (lv' := [(6, .long x_2), (4, .long x_1), (0, .long a), (2, .long b)]) hx hb dX6_commonDivisor_10 hl (by decide) rfl (fun ls hl => ?_)
  refine lv_iconst (v := 0) hx hb dX6_commonDivisor_12 (by decide) ?_
  refine lv_istore (lv' := [(8, .int 0), (6, .long x_2), (4, .long x_1), (0, .long a), (2, .long b)]) hx hb dX6_commonDivisor_13 hl (by decide) rfl (fun ls hl => ?_)
  obtain ⟨bg, ebg⟩ : ∃ x : Int64, x_1 = x := ⟨_, rfl⟩
  obtain ⟨sm, esm⟩ : ∃ x : Int64, x_2 = x := ⟨_, rfl⟩
  obtain ⟨stp, estp⟩ : ∃ x : Int32, 0 = x := ⟨_, rfl⟩
  have hv15 : (0 ≤ stp.toInt ∧ stp.toInt ≤ 200) := by subst ebg esm estp; exact (by decide)
  replace hl : lv_has ls 11 [(8, .int stp), (6, .long sm), (4, .long bg), (0, .long a), (2, .long b)] := by subst ebg esm estp; exact hl
  clear ebg esm estp
  obtain ⟨mm15, hm15⟩ : ∃ mm : Nat, mm = (200 - stp.toInt).toNat := ⟨_, rfl⟩
  refine z_cut2 hP hS hl ?_
  clear hl hP
  intro H locs ls hP hS hl
  induction mm15 using Nat.strongRecOn generalizing bg sm stp H locs ls with
  | _ mm15 ih15 =>
    have hst := hv15
    refine lv_iload hx hb dX6_commonDivisor_15 (lv_at hl 0 rfl) ?_
    refine lv_sipush (v := 200) hx hb dX6_commonDivisor_17 (by decide) ?_
    refine lv_icmp_ge (tgt := 51) hx hb dX6_commonDivisor_20 (by decide) (fun c_3 => ?_) (fun c_3 => ?_)
    · skip
      have hc_3 := zb_le (show (200 : Int32).toInt = 200 by decide) rfl c_3
      refine lv_lload hx hb dX6_commonDivisor_51 (lv_at hl 2 rfl) ?_
      exact W.lret (v := bg) hx hb hr (fun t ht hW => ⟨⟨bg, (), rfl, trivial, ⟨by rw [ht]; exact hP, hD⟩⟩, hS.F ht⟩) hS.2.2 dX6_commonDivisor_53
    · skip
      have hc_3 := zb_nle (show (200 : Int32).toInt = 200 by decide) rfl c_3
      refine lv_lload hx hb dX6_commonDivisor_23 (lv_at hl 1 rfl) ?_
      refine lv_lconst (v := 0) hx hb dX6_commonDivisor_25 (by decide) ?_
      refine z_lcmp hx hb dX6_commonDivisor_26 ?_
      refine lv_if_eq (tgt := 51) hx hb dX6_commonDivisor_27 (by decide) (fun c_4 => ?_) (fun c_4 => ?_)
      · skip
        have hc_4 := zl_eq rfl (show (0 : Int64).toInt = 0 by decide) c_4
        refine lv_lload hx hb dX6_commonDivisor_51 (lv_at hl 2 rfl) ?_
        exact W.lret (v := bg) hx hb hr (fun t ht hW => ⟨⟨bg, (), rfl, trivial, ⟨by rw [ht]; exact hP, hD⟩⟩, hS.F ht⟩) hS.2.2 dX6_commonDivisor_53
      · skip
        have hc_4 := zl_ne rfl (show (0 : Int64).toInt = 0 by decide) c_4
        refine lv_lload hx hb dX6_commonDivisor_30 (lv_at hl 2 rfl) ?_
        refine lv_lload hx hb dX6_commonDivisor_32 (lv_at hl 1 rfl) ?_
        refine lv_lrem hx hb dX6_commonDivisor_34 (z_l0ne (by omega)) ?_
        refine lv_topl (fun x_5 ex_5 => ?_)
        refine lv_lstore (lv' := [(9, .long x_5), (8, .int stp), (6, .long sm), (4, .long bg), (0, .long a), (2, .long b)]) hx hb dX6_commonDivisor_35 hl (by decide) rfl (fun ls hl => ?_)
        refine lv_lload hx hb dX6_commonDivisor_37 (lv_at hl 2 rfl) ?_
        refine lv_lstore (lv' := [(4, .long sm), (9, .long x_5), (8, .int stp), (6, .long sm), (0, .long a), (2, .long b)]) hx hb dX6_commonDivisor_39 hl (by decide) rfl (fun ls hl => ?_)
        refine lv_lload hx hb dX6_commonDivisor_41 (lv_at hl 1 rfl) ?_
        refine lv_lstore (lv' := [(6, .long x_5), (4, .long sm), (9, .long x_5), (8, .int stp), (0, .long a), (2, .long b)]) hx hb dX6_commonDivisor_43 hl (by decide) rfl (fun ls hl => ?_)
        obtain ⟨x_6, ex_6⟩ : ∃ y : Int32, y = stp + 1 := ⟨_, rfl⟩
        have hx_6 : x_6.toInt = stp.toInt + 1 := z_add ex_6 rfl (show (1 : Int32).toInt = 1 by decide) (by omega)
        refine lv_iinc (v := x_6) (lv' := [(8, .int x_6), (6, .long x_5), (4, .long sm), (9, .long x_5), (0, .long a), (2, .long b)]) hx hb dX6_commonDivisor_45 hl (k := 3) rfl (by rw [ex_6]; rfl) (by decide) rfl (fun ls hl => ?_)
        refine lv_goto (tgt := 15) hx hb dX6_commonDivisor_48 (by decide) ?_
        exact ih15 ((200 - x_6.toInt).toNat) (by omega) sm x_5 x_6 (show 0 ≤ x_6.toInt ∧ x_6.toInt ≤ 200 by omega) rfl H locs ls hP hS (lv_sub hl [0, 1, 2, 4, 5] rfl)
set_option maxHeartbeats 4000000 in
set_option maxRecDepth 100000 in
theorem c_X6_millionths (l : Launch) (dC : Nat → ClassId) (dI : Nat → Nat → Nat) (k : Nat → ClassId) (a : Int64) (b : Int64) (sz : Nat)  : Met l yX6_millionths (wz yX6_millionths cX6_millionths 9 (some .int)) ({ frames := 0, cells := 0, slots := 0, locals := 0 }) (va_Pc [.long a, .long b] (zPre dC dI k (zTX k) [] sz)) (va_Qi (fun (r : Int32) (u : Unit) => True) (fun u t => zPost dC dI (va_A [] sz) [] t) (va_A [] sz)) 0 0 (va_A [] sz) := by
  refine Met.ofW (cc := cX6_millionths) (maxL := 9) (ret := (some .int)) (by decide) rfl ?_
  intro p e s m args below meth c s₁ B hml hv
  obtain ⟨rfl, hsz, hP, hK, hD0⟩ := hv
  have hx := B.exec
  have hb := B.bytes
  have hr := B.returns
  have hts := atoms_spec (ws := wz yX6_millionths cX6_millionths 9 (some .int)) B.pre
  have htb : ∀ w ∈ zw, w.before _ s = true := fun w h => hts w (List.mem_cons_of_mem _ h)
  have hown : s.vm.findClass RX6 = some m.cls := findClass_of_methodNamed B.named
  have hlocks := B.notSynchronized
  clear hts
  subst hsz
  have hD := hD0.self (sz := s.heap.size)
  generalize hAe : va_A [] s.heap.size = A at hD ⊢
  have hA : ∀ q : Nat, s.heap.size ≤ q → A q := fun q h => by rw [← hAe]; exact Or.inr h
  have hl := lv_entry ([.long a, .long b]) (n := 9) (Nat.le_of_ble_eq_true rfl)
  rw [lg_entry_eq]
  generalize (lg_sl ([.long a, .long b]) ++ List.replicate (9 - (lg_sl ([.long a, .long b])).length) Slot.unset).toArray = ls at hl ⊢
  have hl : lv_has ls 9 [(0, .long a), (2, .long b)] := hl
  refine z_start2 (A := A) (w := []) hP (fun H locs hP hS => ?_)
  clear hD0 hAe
  refine lv_lload_n hx hb dX6_millionths_0 rfl (lv_at hl 1 rfl) ?_
  refine lv_lconst (v := 1) hx hb dX6_millionths_1 (by decide) ?_
  refine z_lcmp hx hb dX6_millionths_2 ?_
  refine lv_if_ge (tgt := 8) hx hb dX6_millionths_3 (by decide) (fun c_1 => ?_) (fun c_1 => ?_)
  · skip
    have hc_1 := zl_ge rfl (show (1 : Int64).toInt = 1 by decide) c_1
    refine lv_lload_n hx hb dX6_millionths_8 rfl (lv_at hl 0 rfl) ?_
    refine lv_lload_n hx hb dX6_millionths_9 rfl (lv_at hl 1 rfl) ?_
    refine lv_ldiv hx hb dX6_millionths_10 (z_l0ne (by omega)) ?_
    refine lv_topl (fun x_2 ex_2 => ?_)
    refine lv_lstore (lv' := [(4, .long x_2), (0, .long a), (2, .long b)]) hx hb dX6_millionths_11 hl (by decide) rfl (fun ls hl => ?_)
    refine lv_lload_n hx hb dX6_millionths_13 rfl (lv_at hl 1 rfl) ?_
    refine lv_lload_n hx hb dX6_millionths_14 rfl (lv_at hl 2 rfl) ?_
    refine lv_lrem hx hb dX6_millionths_15 (z_l0ne (by omega)) ?_
    refine lv_topl (fun x_3 ex_3 => ?_)
    refine lv_lstore (lv' := [(6, .long x_3), (4, .long x_2), (0, .long a), (2, .long b)]) hx hb dX6_millionths_16 hl (by decide) rfl (fun ls hl => ?_)
    refine lv_iconst (v := 0) hx hb dX6_millionths_18 (by decide) ?_
    refine lv_istore (lv' := [(8, .int 0), (6, .long x_3), (4, .long x_2), (0, .long a), (2, .long b)]) hx hb dX6_millionths_19 hl (by decide) rfl (fun ls hl => ?_)
    obtain ⟨tl, etl⟩ : ∃ x : Int64, x_2 = x := ⟨_, rfl⟩
    obtain ⟨rs, ers⟩ : ∃ x : Int64, x_3 = x := ⟨_, rfl⟩
    obtain ⟨fg, efg⟩ : ∃ x : Int32, 0 = x := ⟨_, rfl⟩
    have hv21 : (0 ≤ fg.toInt ∧ fg.toInt ≤ 6) := by subst etl ers efg; exact (by decide)
    replace hl : lv_has ls 9 [(8, .int fg), (6, .long rs), (4, .long tl), (0, .long a), (2, .long b)] := by subst etl ers efg; exact hl
    clear etl ers efg
    obtain ⟨mm21, hm21⟩ : ∃ mm : Nat, mm = (6 - fg.toInt).toNat := ⟨_, rfl⟩
    refine z_cut2 hP hS hl ?_
    clear hl hP
    intro H locs ls hP hS hl
    induction mm21 using Nat.strongRecOn generalizing tl rs fg H locs ls with
    | _ mm21 ih21 =>
      have hfg := hv21
      refine lv_iload hx hb dX6_millionths_21 (lv_at hl 0 rfl) ?_
      refine lv_bipush (v := 6) hx hb dX6_millionths_23 (by decide) ?_
      refine lv_icmp_ge (tgt := 61) hx hb dX6_millionths_25 (by decide) (fun c_4 => ?_) (fun c_4 => ?_)
      · skip
        have hc_4 := zb_le (show (6 : Int32).toInt = 6 by decide) rfl c_4
        refine lv_lload hx hb dX6_millionths_61 (lv_at hl 2 rfl) ?_
        refine lv_l2i (v := tl.toInt32) hx hb dX6_millionths_63 rfl ?_
        refine lv_topi (fun x_5 ex_5 => ?_)
        exact W.iret (v := x_5) hx hb hr (fun t ht hW => ⟨⟨x_5, (), rfl, trivial, ⟨by rw [ht]; exact hP, hD⟩⟩, hS.F ht⟩) hS.2.2 dX6_millionths_64
      · skip
        have hc_4 := zb_nle (show (6 : Int32).toInt = 6 by decide) rfl c_4
        refine lv_lload hx hb dX6_millionths_28 (lv_at hl 1 rfl) ?_
        refine lv_ldc2 (v := 10) hx hb hown (htb _ wmt2_226) dX6_millionths_30 ?_
        refine lv_lmul hx hb dX6_millionths_33 ?_
        refine lv_topl (fun x_6 ex_6 => ?_)
        refine lv_lstore (lv' := [(6, .long x_6), (8, .int fg), (4, .long tl), (0, .long a), (2, .long b)]) hx hb dX6_millionths_34 hl (by decide) rfl (fun ls hl => ?_)
        refine lv_lload hx hb dX6_millionths_36 (lv_at hl 2 rfl) ?_
        refine lv_ldc2 (v := 10) hx hb hown (htb _ wmt2_226) dX6_millionths_38 ?_
        refine lv_lmul hx hb dX6_millionths_41 ?_
        refine lv_topl (fun x_7 ex_7 => ?_)
        refine lv_lload hx hb dX6_millionths_42 (lv_at hl 0 rfl) ?_
        refine lv_lload_n hx hb dX6_millionths_44 rfl (lv_at hl 4 rfl) ?_
        refine lv_ldiv hx hb dX6_millionths_45 (z_l0ne (by omega)) ?_
        refine lv_topl (fun x_8 ex_8 => ?_)
        refine lv_ladd hx hb dX6_millionths_46 ?_
        refine lv_topl (fun x_9 ex_9 => ?_)
        refine lv_lstore (lv' := [(4, .long x_9), (6, .long x_6), (8, .int fg), (0, .long a), (2, .long b)]) hx hb dX6_millionths_47 hl (by decide) rfl (fun ls hl => ?_)
        refine lv_lload hx hb dX6_millionths_49 (lv_at hl 1 rfl) ?_
        refine lv_lload_n hx hb dX6_millionths_51 rfl (lv_at hl 4 rfl) ?_
        refine lv_lrem hx hb dX6_millionths_52 (z_l0ne (by omega)) ?_
        refine lv_topl (fun x_10 ex_10 => ?_)
        refine lv_lstore (lv' := [(6, .long x_10), (4, .long x_9), (8, .int fg), (0, .long a), (2, .long b)]) hx hb dX6_millionths_53 hl (by decide) rfl (fun ls hl => ?_)
        obtain ⟨x_11, ex_11⟩ : ∃ y : Int32, y = fg + 1 := ⟨_, rfl⟩
        have hx_11 : x_11.toInt = fg.toInt + 1 := z_add ex_11 rfl (show (1 : Int32).toInt = 1 by decide) (by omega)
        refine lv_iinc (v := x_11) (lv' := [(8, .int x_11), (6, .long x_10), (4, .long x_9), (0, .long a), (2, .long b)]) hx hb dX6_millionths_55 hl (k := 2) rfl (by rw [ex_11]; rfl) (by decide) rfl (fun ls hl => ?_)
        refine lv_goto (tgt := 21) hx hb dX6_millionths_58 (by decide) ?_
        exact ih21 ((6 - x_11.toInt).toNat) (by omega) x_9 x_10 x_11 (show 0 ≤ x_11.toInt ∧ x_11.toInt ≤ 6 by omega) rfl H locs ls hP hS (lv_sub hl [0, 1, 2, 3, 4] rfl)
  · skip
    have hc_1 := zl_nge rfl (show (1 : Int64).toInt = 1 by decide) c_1
    refine lv_iconst (v := 0) hx hb dX6_millionths_6 (by decide) ?_
    exact W.iret (v := 0) hx hb hr (fun t ht hW => ⟨⟨0, (), rfl, trivial, ⟨by rw [ht]; exact hP, hD⟩⟩, hS.F ht⟩) hS.2.2 dX6_millionths_7
