set_option maxHeartbeats 4000000 in
set_option maxRecDepth 100000 in
theorem c_J7_fill_53178_4 (l : Launch) (dC : Nat → ClassId) (dI : Nat → Nat → Nat) (k : Nat → ClassId) (T : List (ClassId × FieldType)) (a1 : Nat) (f : Nat → Int32) (sz : Nat)  : Met l yJ7_fill_53178 (wz yJ7_fill_53178 cJ7_fill_53178 4 none) ({ frames := 0, cells := 0, slots := 0, locals := 0 }) (va_Pc [.ref a1, .int 0] (zPre dC dI k T [(a1, .inl (k 0, 4, .inl f))] sz)) (va_Qv (fun (u : (Nat → Int32)) => True) (fun u t => zPost dC dI (va_A [(a1, .inl (k 0, 4, .inl f))] sz) [(a1, .inl (k 0, 4, .inl u))] t) (va_A [(a1, .inl (k 0, 4, .inl f))] sz)) 0 0 (va_A [(a1, .inl (k 0, 4, .inl f))] sz) := by
  refine Met.ofW (cc := cJ7_fill_53178) (maxL := 4) (ret := none) (by decide) rfl ?_
  intro p e s m args below meth c s₁ B hml hv
  obtain ⟨rfl, hsz, hP, hK, hD0⟩ := hv
  have hx := B.exec
  have hb := B.bytes
  have hr := B.returns
  have hts : ∀ w ∈ zw, w.before _ s = true := fun w h => atoms_spec (ws := (wz yJ7_fill_53178 cJ7_fill_53178 4 none)) B.pre w (List.mem_cons_of_mem _ h)
  have hown : s.vm.findClass RJ7 = some m.cls := findClass_of_methodNamed B.named
  have hlocks := B.notSynchronized
  subst hsz
  have hD := hD0.self (sz := s.heap.size)
  generalize hAe : va_A [(a1, .inl (k 0, 4, .inl f))] s.heap.size = A at hD ⊢
  have hA : ∀ q : Nat, s.heap.size ≤ q → A q := fun q h => by rw [← hAe]; exact Or.inr h
  have hl := lv_entry ([.ref a1, .int 0]) (n := 4) (Nat.le_of_ble_eq_true rfl)
  rw [lg_entry_eq]
  generalize (lg_sl ([.ref a1, .int 0]) ++ List.replicate (4 - (lg_sl ([.ref a1, .int 0])).length) Slot.unset).toArray = ls at hl ⊢
  have hl : lv_has ls 4 [(0, .ref a1), (1, .int 0)] := hl
  refine z_start (w := [(a1, .inl (k 0, 4, .inl f))]) hP hD (fun H locs hP hD hS => ?_)
  refine lv_iconst (v := 0) hx hb dJ7_fill_53178_0 (by decide) ?_
  refine lv_istore_n (lv' := [(2, .int 0), (0, .ref a1), (1, .int 0)]) hx hb dJ7_fill_53178_1 rfl hl (by decide) rfl (fun ls hl => ?_)
  refine lv_aload_n hx hb dJ7_fill_53178_2 rfl (lv_at hl 1 rfl) ?_
  refine va_alen (D := (dC, dI)) (v := 4) hx hb hK.1 hP 0 0 rfl rfl rfl dJ7_fill_53178_3 ?_
  refine lv_istore_n (lv' := [(3, .int 4), (2, .int 0), (0, .ref a1), (1, .int 0)]) hx hb dJ7_fill_53178_4 rfl hl (by decide) rfl (fun ls hl => ?_)
  refine lv_iload_n hx hb dJ7_fill_53178_5 rfl (lv_at hl 1 rfl) ?_
  refine lv_iload_n hx hb dJ7_fill_53178_6 rfl (lv_at hl 0 rfl) ?_
  refine lv_icmp_ge (tgt := 20) hx hb dJ7_fill_53178_7 (by decide) (fun c_1 => ?_) (fun c_1 => ?_)
  · skip
    exact absurd c_1 (by decide)
  · skip
    refine lv_aload_n hx hb dJ7_fill_53178_10 rfl (lv_at hl 2 rfl) ?_
    refine lv_iload_n hx hb dJ7_fill_53178_11 rfl (lv_at hl 1 rfl) ?_
    refine lv_iload_n hx hb dJ7_fill_53178_12 rfl (lv_at hl 3 rfl) ?_
    refine va_iast (D := (dC, dI)) hx hb hK.1 hP hD hS 0 0 rfl rfl (show ¬ _ by decide) dJ7_fill_53178_13 (fun H locs hP hD hS => ?_)
    generalize upd f (0 : Int32).toNatClampNeg 0 = f_2 at hP hD
    have hP : va_P (dC, dI) vwCl [(a1, .inl (k 0, 4, .inl f_2))] H := hP
    have hD : va_D A [(a1, .inl (k 0, 4, .inl f_2))] := hD
    refine lv_iinc (v := 1) (lv' := [(2, .int 1), (3, .int 4), (0, .ref a1), (1, .int 0)]) hx hb dJ7_fill_53178_14 hl (k := 1) rfl (by decide) (by decide) rfl (fun ls hl => ?_)
    refine lv_goto (tgt := 5) hx hb dJ7_fill_53178_17 (by decide) ?_
    refine lv_iload_n hx hb dJ7_fill_53178_5 rfl (lv_at hl 0 rfl) ?_
    refine lv_iload_n hx hb dJ7_fill_53178_6 rfl (lv_at hl 1 rfl) ?_
    refine lv_icmp_ge (tgt := 20) hx hb dJ7_fill_53178_7 (by decide) (fun c_3 => ?_) (fun c_3 => ?_)
    · skip
      exact absurd c_3 (by decide)
    · skip
      refine lv_aload_n hx hb dJ7_fill_53178_10 rfl (lv_at hl 2 rfl) ?_
      refine lv_iload_n hx hb dJ7_fill_53178_11 rfl (lv_at hl 0 rfl) ?_
      refine lv_iload_n hx hb dJ7_fill_53178_12 rfl (lv_at hl 3 rfl) ?_
      refine va_iast (D := (dC, dI)) hx hb hK.1 hP hD hS 0 0 rfl rfl (show ¬ _ by decide) dJ7_fill_53178_13 (fun H locs hP hD hS => ?_)
      generalize upd f_2 (1 : Int32).toNatClampNeg 0 = f_4 at hP hD
      have hP : va_P (dC, dI) vwCl [(a1, .inl (k 0, 4, .inl f_4))] H := hP
      have hD : va_D A [(a1, .inl (k 0, 4, .inl f_4))] := hD
      refine lv_iinc (v := 2) (lv' := [(2, .int 2), (3, .int 4), (0, .ref a1), (1, .int 0)]) hx hb dJ7_fill_53178_14 hl (k := 0) rfl (by decide) (by decide) rfl (fun ls hl => ?_)
      refine lv_goto (tgt := 5) hx hb dJ7_fill_53178_17 (by decide) ?_
      refine lv_iload_n hx hb dJ7_fill_53178_5 rfl (lv_at hl 0 rfl) ?_
      refine lv_iload_n hx hb dJ7_fill_53178_6 rfl (lv_at hl 1 rfl) ?_
      refine lv_icmp_ge (tgt := 20) hx hb dJ7_fill_53178_7 (by decide) (fun c_5 => ?_) (fun c_5 => ?_)
      · skip
        exact absurd c_5 (by decide)
      · skip
        refine lv_aload_n hx hb dJ7_fill_53178_10 rfl (lv_at hl 2 rfl) ?_
        refine lv_iload_n hx hb dJ7_fill_53178_11 rfl (lv_at hl 0 rfl) ?_
        refine lv_iload_n hx hb dJ7_fill_53178_12 rfl (lv_at hl 3 rfl) ?_
        refine va_iast (D := (dC, dI)) hx hb hK.1 hP hD hS 0 0 rfl rfl (show ¬ _ by decide) dJ7_fill_53178_13 (fun H locs hP hD hS => ?_)
        generalize upd f_4 (2 : Int32).toNatClampNeg 0 = f_6 at hP hD
        have hP : va_P (dC, dI) vwCl [(a1, .inl (k 0, 4, .inl f_6))] H := hP
        have hD : va_D A [(a1, .inl (k 0, 4, .inl f_6))] := hD
        refine lv_iinc (v := 3) (lv' := [(2, .int 3), (3, .int 4), (0, .ref a1), (1, .int 0)]) hx hb dJ7_fill_53178_14 hl (k := 0) rfl (by decide) (by decide) rfl (fun ls hl => ?_)
        refine lv_goto (tgt := 5) hx hb dJ7_fill_53178_17 (by decide) ?_
        refine lv_iload_n hx hb dJ7_fill_53178_5 rfl (lv_at hl 0 rfl) ?_
        refine lv_iload_n hx hb dJ7_fill_53178_6 rfl (lv_at hl 1 rfl) ?_
        refine lv_icmp_ge (tgt := 20) hx hb dJ7_fill_53178_7 (by decide) (fun c_7 => ?_) (fun c_7 => ?_)
        · skip
          exact absurd c_7 (by decide)
        · skip
          refine lv_aload_n hx hb dJ7_fill_53178_10 rfl (lv_at hl 2 rfl) ?_
          refine lv_iload_n hx hb dJ7_fill_53178_11 rfl (lv_at hl 0 rfl) ?_
          refine lv_iload_n hx hb dJ7_fill_53178_12 rfl (lv_at hl 3 rfl) ?_
          refine va_iast (D := (dC, dI)) hx hb hK.1 hP hD hS 0 0 rfl rfl (show ¬ _ by decide) dJ7_fill_53178_13 (fun H locs hP hD hS => ?_)
          generalize upd f_6 (3 : Int32).toNatClampNeg 0 = f_8 at hP hD
          have hP : va_P (dC, dI) vwCl [(a1, .inl (k 0, 4, .inl f_8))] H := hP
          have hD : va_D A [(a1, .inl (k 0, 4, .inl f_8))] := hD
          refine lv_iinc (v := 4) (lv' := [(2, .int 4), (3, .int 4), (0, .ref a1), (1, .int 0)]) hx hb dJ7_fill_53178_14 hl (k := 0) rfl (by decide) (by decide) rfl (fun ls hl => ?_)
          refine lv_goto (tgt := 5) hx hb dJ7_fill_53178_17 (by decide) ?_
          refine lv_iload_n hx hb dJ7_fill_53178_5 rfl (lv_at hl 0 rfl) ?_
          refine lv_iload_n hx hb dJ7_fill_53178_6 rfl (lv_at hl 1 rfl) ?_
          refine lv_icmp_ge (tgt := 20) hx hb dJ7_fill_53178_7 (by decide) (fun c_9 => ?_) (fun c_9 => ?_)
          · skip
            exact W.vret hx hb hr (fun t ht hW => ⟨⟨(f_8), rfl, trivial, ⟨by rw [ht]; exact hP, hD⟩⟩, hS.F ht⟩) hS.2.2 dJ7_fill_53178_20
          · skip
            exact absurd (by decide) c_9
set_option maxHeartbeats 4000000 in
set_option maxRecDepth 100000 in
theorem c_J7_fill_d0a16_5 (l : Launch) (dC : Nat → ClassId) (dI : Nat → Nat → Nat) (k : Nat → ClassId) (T : List (ClassId × FieldType)) (a1 : Nat) (f : Nat → Int64) (sz : Nat)  : Met l yJ7_fill_d0a16 (wz yJ7_fill_d0a16 cJ7_fill_d0a16 5 none) ({ frames := 0, cells := 0, slots := 0, locals := 0 }) (va_Pc [.ref a1, .long 0] (zPre dC dI k T [(a1, .inl (k 1, 5, .inr (.inl f)))] sz)) (va_Qv (fun (u : (Nat → Int64)) => True) (fun u t => zPost dC dI (va_A [(a1, .inl (k 1, 5, .inr (.inl f)))] sz) [(a1, .inl (k 1, 5, .inr (.inl u)))] t) (va_A [(a1, .inl (k 1, 5, .inr (.inl f)))] sz)) 0 0 (va_A [(a1, .inl (k 1, 5, .inr (.inl f)))] sz) := by
  refine Met.ofW (cc := cJ7_fill_d0a16) (maxL := 5) (ret := none) (by decide) rfl ?_
  intro p e s m args below meth c s₁ B hml hv
  obtain ⟨rfl, hsz, hP, hK, hD0⟩ := hv
  have hx := B.exec
  have hb := B.bytes
  have hr := B.returns
  have hts : ∀ w ∈ zw, w.before _ s = true := fun w h => atoms_spec (ws := (wz yJ7_fill_d0a16 cJ7_fill_d0a16 5 none)) B.pre w (List.mem_cons_of_mem _ h)
  have hown : s.vm.findClass RJ7 = some m.cls := findClass_of_methodNamed B.named
  have hlocks := B.notSynchronized
  subst hsz
  have hD := hD0.self (sz := s.heap.size)
  generalize hAe : va_A [(a1, .inl (k 1, 5, .inr (.inl f)))] s.heap.size = A at hD ⊢
  have hA : ∀ q : Nat, s.heap.size ≤ q → A q := fun q h => by rw [← hAe]; exact Or.inr h
  have hl := lv_entry ([.ref a1, .long 0]) (n := 5) (Nat.le_of_ble_eq_true rfl)
  rw [lg_entry_eq]
  generalize (lg_sl ([.ref a1, .long 0]) ++ List.replicate (5 - (lg_sl ([.ref a1, .long 0])).length) Slot.unset).toArray = ls at hl ⊢
  have hl : lv_has ls 5 [(0, .ref a1), (1, .long 0)] := hl
  refine z_start (w := [(a1, .inl (k 1, 5, .inr (.inl f)))]) hP hD (fun H locs hP hD hS => ?_)
  refine lv_iconst (v := 0) hx hb dJ7_fill_d0a16_0 (by decide) ?_
  refine lv_istore_n (lv' := [(3, .int 0), (0, .ref a1), (1, .long 0)]) hx hb dJ7_fill_d0a16_1 rfl hl (by decide) rfl (fun ls hl => ?_)
  refine lv_aload_n hx hb dJ7_fill_d0a16_2 rfl (lv_at hl 1 rfl) ?_
  refine va_alen (D := (dC, dI)) (v := 5) hx hb hK.1 hP 0 1 rfl rfl rfl dJ7_fill_d0a16_3 ?_
  refine lv_istore (lv' := [(4, .int 5), (3, .int 0), (0, .ref a1), (1, .long 0)]) hx hb dJ7_fill_d0a16_4 hl (by decide) rfl (fun ls hl => ?_)
  refine lv_iload_n hx hb dJ7_fill_d0a16_6 rfl (lv_at hl 1 rfl) ?_
  refine lv_iload hx hb dJ7_fill_d0a16_7 (lv_at hl 0 rfl) ?_
  refine lv_icmp_ge (tgt := 22) hx hb dJ7_fill_d0a16_9 (by decide) (fun c_1 => ?_) (fun c_1 => ?_)
  · skip
    exact absurd c_1 (by decide)
  · skip
    refine lv_aload_n hx hb dJ7_fill_d0a16_12 rfl (lv_at hl 2 rfl) ?_
    refine lv_iload_n hx hb dJ7_fill_d0a16_13 rfl (lv_at hl 1 rfl) ?_
    refine lv_lload_n hx hb dJ7_fill_d0a16_14 rfl (lv_at hl 3 rfl) ?_
    refine va_last (D := (dC, dI)) hx hb hK.1 hP hD hS 0 1 rfl rfl (show ¬ _ by decide) dJ7_fill_d0a16_15 (fun H locs hP hD hS => ?_)
    generalize vp_updL f (0 : Int32).toNatClampNeg 0 = f_2 at hP hD
    have hP : va_P (dC, dI) vwCl [(a1, .inl (k 1, 5, .inr (.inl f_2)))] H := hP
    have hD : va_D A [(a1, .inl (k 1, 5, .inr (.inl f_2)))] := hD
    refine lv_iinc (v := 1) (lv' := [(3, .int 1), (4, .int 5), (0, .ref a1), (1, .long 0)]) hx hb dJ7_fill_d0a16_16 hl (k := 1) rfl (by decide) (by decide) rfl (fun ls hl => ?_)
    refine lv_goto (tgt := 6) hx hb dJ7_fill_d0a16_19 (by decide) ?_
    refine lv_iload_n hx hb dJ7_fill_d0a16_6 rfl (lv_at hl 0 rfl) ?_
    refine lv_iload hx hb dJ7_fill_d0a16_7 (lv_at hl 1 rfl) ?_
    refine lv_icmp_ge (tgt := 22) hx hb dJ7_fill_d0a16_9 (by decide) (fun c_3 => ?_) (fun c_3 => ?_)
    · skip
      exact absurd c_3 (by decide)
    · skip
      refine lv_aload_n hx hb dJ7_fill_d0a16_12 rfl (lv_at hl 2 rfl) ?_
      refine lv_iload_n hx hb dJ7_fill_d0a16_13 rfl (lv_at hl 0 rfl) ?_
      refine lv_lload_n hx hb dJ7_fill_d0a16_14 rfl (lv_at hl 3 rfl) ?_
      refine va_last (D := (dC, dI)) hx hb hK.1 hP hD hS 0 1 rfl rfl (show ¬ _ by decide) dJ7_fill_d0a16_15 (fun H locs hP hD hS => ?_)
      generalize vp_updL f_2 (1 : Int32).toNatClampNeg 0 = f_4 at hP hD
      have hP : va_P (dC, dI) vwCl [(a1, .inl (k 1, 5, .inr (.inl f_4)))] H := hP
      have hD : va_D A [(a1, .inl (k 1, 5, .inr (.inl f_4)))] := hD
      refine lv_iinc (v := 2) (lv' := [(3, .int 2), (4, .int 5), (0, .ref a1), (1, .long 0)]) hx hb dJ7_fill_d0a16_16 hl (k := 0) rfl (by decide) (by decide) rfl (fun ls hl => ?_)
      refine lv_goto (tgt := 6) hx hb dJ7_fill_d0a16_19 (by decide) ?_
      refine lv_iload_n hx hb dJ7_fill_d0a16_6 rfl (lv_at hl 0 rfl) ?_
      refine lv_iload hx hb dJ7_fill_d0a16_7 (lv_at hl 1 rfl) ?_
      refine lv_icmp_ge (tgt := 22) hx hb dJ7_fill_d0a16_9 (by decide) (fun c_5 => ?_) (fun c_5 => ?_)
      · skip
        exact absurd c_5 (by decide)
      · skip
        refine lv_aload_n hx hb dJ7_fill_d0a16_12 rfl (lv_at hl 2 rfl) ?_
        refine lv_iload_n hx hb dJ7_fill_d0a16_13 rfl (lv_at hl 0 rfl) ?_
        refine lv_lload_n hx hb dJ7_fill_d0a16_14 rfl (lv_at hl 3 rfl) ?_
        refine va_last (D := (dC, dI)) hx hb hK.1 hP hD hS 0 1 rfl rfl (show ¬ _ by decide) dJ7_fill_d0a16_15 (fun H locs hP hD hS => ?_)
        generalize vp_updL f_4 (2 : Int32).toNatClampNeg 0 = f_6 at hP hD
        have hP : va_P (dC, dI) vwCl [(a1, .inl (k 1, 5, .inr (.inl f_6)))] H := hP
        have hD : va_D A [(a1, .inl (k 1, 5, .inr (.inl f_6)))] := hD
        refine lv_iinc (v := 3) (lv' := [(3, .int 3), (4, .int 5), (0, .ref a1), (1, .long 0)]) hx hb dJ7_fill_d0a16_16 hl (k := 0) rfl (by decide) (by decide) rfl (fun ls hl => ?_)
        refine lv_goto (tgt := 6) hx hb dJ7_fill_d0a16_19 (by decide) ?_
        refine lv_iload_n hx hb dJ7_fill_d0a16_6 rfl (lv_at hl 0 rfl) ?_
        refine lv_iload hx hb dJ7_fill_d0a16_7 (lv_at hl 1 rfl) ?_
        refine lv_icmp_ge (tgt := 22) hx hb dJ7_fill_d0a16_9 (by decide) (fun c_7 => ?_) (fun c_7 => ?_)
        · skip
          exact absurd c_7 (by decide)
        · skip
          refine lv_aload_n hx hb dJ7_fill_d0a16_12 rfl (lv_at hl 2 rfl) ?_
          refine lv_iload_n hx hb dJ7_fill_d0a16_13 rfl (lv_at hl 0 rfl) ?_
          refine lv_lload_n hx hb dJ7_fill_d0a16_14 rfl (lv_at hl 3 rfl) ?_
          refine va_last (D := (dC, dI)) hx hb hK.1 hP hD hS 0 1 rfl rfl (show ¬ _ by decide) dJ7_fill_d0a16_15 (fun H locs hP hD hS => ?_)
          generalize vp_updL f_6 (3 : Int32).toNatClampNeg 0 = f_8 at hP hD
          have hP : va_P (dC, dI) vwCl [(a1, .inl (k 1, 5, .inr (.inl f_8)))] H := hP
          have hD : va_D A [(a1, .inl (k 1, 5, .inr (.inl f_8)))] := hD
          refine lv_iinc (v := 4) (lv' := [(3, .int 4), (4, .int 5), (0, .ref a1), (1, .long 0)]) hx hb dJ7_fill_d0a16_16 hl (k := 0) rfl (by decide) (by decide) rfl (fun ls hl => ?_)
          refine lv_goto (tgt := 6) hx hb dJ7_fill_d0a16_19 (by decide) ?_
          refine lv_iload_n hx hb dJ7_fill_d0a16_6 rfl (lv_at hl 0 rfl) ?_
          refine lv_iload hx hb dJ7_fill_d0a16_7 (lv_at hl 1 rfl) ?_
          refine lv_icmp_ge (tgt := 22) hx hb dJ7_fill_d0a16_9 (by decide) (fun c_9 => ?_) (fun c_9 => ?_)
          · skip
            exact absurd c_9 (by decide)
          · skip
            refine lv_aload_n hx hb dJ7_fill_d0a16_12 rfl (lv_at hl 2 rfl) ?_
            refine lv_iload_n hx hb dJ7_fill_d0a16_13 rfl (lv_at hl 0 rfl) ?_
            refine lv_lload_n hx hb dJ7_fill_d0a16_14 rfl (lv_at hl 3 rfl) ?_
            refine va_last (D := (dC, dI)) hx hb hK.1 hP hD hS 0 1 rfl rfl (show ¬ _ by decide) dJ7_fill_d0a16_15 (fun H locs hP hD hS => ?_)
            generalize vp_updL f_8 (4 : Int32).toNatClampNeg 0 = f_10 at hP hD
            have hP : va_P (dC, dI) vwCl [(a1, .inl (k 1, 5, .inr (.inl f_10)))] H := hP
            have hD : va_D A [(a1, .inl (k 1, 5, .inr (.inl f_10)))] := hD
            refine lv_iinc (v := 5) (lv' := [(3, .int 5), (4, .int 5), (0, .ref a1), (1, .long 0)]) hx hb dJ7_fill_d0a16_16 hl (k := 0) rfl (by decide) (by decide) rfl (fun ls hl => ?_)
            refine lv_goto (tgt := 6) hx hb dJ7_fill_d0a16_19 (by decide) ?_
            refine lv_iload_n hx hb dJ7_fill_d0a16_6 rfl (lv_at hl 0 rfl) ?_
            refine lv_iload hx hb dJ7_fill_d0a16_7 (lv_at hl 1 rfl) ?_
            refine lv_icmp_ge (tgt := 22) hx hb dJ7_fill_d0a16_9 (by decide) (fun c_11 => ?_) (fun c_11 => ?_)
            · skip
              exact W.vret hx hb hr (fun t ht hW => ⟨⟨(f_10), rfl, trivial, ⟨by rw [ht]; exact hP, hD⟩⟩, hS.F ht⟩) hS.2.2 dJ7_fill_d0a16_22
            · skip
              exact absurd (by decide) c_11
set_option maxHeartbeats 4000000 in
set_option maxRecDepth 100000 in
theorem c_J7_fill_53178_60 (l : Launch) (dC : Nat → ClassId) (dI : Nat → Nat → Nat) (k : Nat → ClassId) (T : List (ClassId × FieldType)) (a1 : Nat) (f : Nat → Int32) (sz : Nat)  : Met l yJ7_fill_53178 (wz yJ7_fill_53178 cJ7_fill_53178 4 none) ({ frames := 0, cells := 0, slots := 0, locals := 0 }) (va_Pc [.ref a1, .int 0] (zPre dC dI k T [(a1, .inl (k 0, 60, .inl f))] sz)) (va_Qv (fun (u : (Nat → Int32)) => True) (fun u t => zPost dC dI (va_A [(a1, .inl (k 0, 60, .inl f))] sz) [(a1, .inl (k 0, 60, .inl u))] t) (va_A [(a1, .inl (k 0, 60, .inl f))] sz)) 0 0 (va_A [(a1, .inl (k 0, 60, .inl f))] sz) := by
  refine Met.ofW (cc := cJ7_fill_53178) (maxL := 4) (ret := none) (by decide) rfl ?_
  intro p e s m args below meth c s₁ B hml hv
  obtain ⟨rfl, hsz, hP, hK, hD0⟩ := hv
  have hx := B.exec
  have hb := B.bytes
  have hr := B.returns
  have hts : ∀ w ∈ zw, w.before _ s = true := fun w h => atoms_spec (ws := (wz yJ7_fill_53178 cJ7_fill_53178 4 none)) B.pre w (List.mem_cons_of_mem _ h)
  have hown : s.vm.findClass RJ7 = some m.cls := findClass_of_methodNamed B.named
  have hlocks := B.notSynchronized
  subst hsz
  have hD := hD0.self (sz := s.heap.size)
  generalize hAe : va_A [(a1, .inl (k 0, 60, .inl f))] s.heap.size = A at hD ⊢
  have hA : ∀ q : Nat, s.heap.size ≤ q → A q := fun q h => by rw [← hAe]; exact Or.inr h
  have hl := lv_entry ([.ref a1, .int 0]) (n := 4) (Nat.le_of_ble_eq_true rfl)
  rw [lg_entry_eq]
  generalize (lg_sl ([.ref a1, .int 0]) ++ List.replicate (4 - (lg_sl ([.ref a1, .int 0])).length) Slot.unset).toArray = ls at hl ⊢
  have hl : lv_has ls 4 [(0, .ref a1), (1, .int 0)] := hl
  refine z_start (w := [(a1, .inl (k 0, 60, .inl f))]) hP hD (fun H locs hP hD hS => ?_)
  refine lv_iconst (v := 0) hx hb dJ7_fill_53178_0 (by decide) ?_
  refine lv_istore_n (lv' := [(2, .int 0), (0, .ref a1), (1, .int 0)]) hx hb dJ7_fill_53178_1 rfl hl (by decide) rfl (fun ls hl => ?_)
  refine lv_aload_n hx hb dJ7_fill_53178_2 rfl (lv_at hl 1 rfl) ?_
  refine va_alen (D := (dC, dI)) (v := 60) hx hb hK.1 hP 0 0 rfl rfl rfl dJ7_fill_53178_3 ?_
  refine lv_istore_n (lv' := [(3, .int 60), (2, .int 0), (0, .ref a1), (1, .int 0)]) hx hb dJ7_fill_53178_4 rfl hl (by decide) rfl (fun ls hl => ?_)
  refine lv_iload_n hx hb dJ7_fill_53178_5 rfl (lv_at hl 1 rfl) ?_
  refine lv_iload_n hx hb dJ7_fill_53178_6 rfl (lv_at hl 0 rfl) ?_
  refine lv_icmp_ge (tgt := 20) hx hb dJ7_fill_53178_7 (by decide) (fun c_1 => ?_) (fun c_1 => ?_)
  · skip
    exact absurd c_1 (by decide)
  · skip
    refine lv_aload_n hx hb dJ7_fill_53178_10 rfl (lv_at hl 2 rfl) ?_
    refine lv_iload_n hx hb dJ7_fill_53178_11 rfl (lv_at hl 1 rfl) ?_
    refine lv_iload_n hx hb dJ7_fill_53178_12 rfl (lv_at hl 3 rfl) ?_
    refine va_iast (D := (dC, dI)) hx hb hK.1 hP hD hS 0 0 rfl rfl (show ¬ _ by decide) dJ7_fill_53178_13 (fun H locs hP hD hS => ?_)
    generalize upd f (0 : Int32).toNatClampNeg 0 = f_2 at hP hD
    have hP : va_P (dC, dI) vwCl [(a1, .inl (k 0, 60, .inl f_2))] H := hP
    have hD : va_D A [(a1, .inl (k 0, 60, .inl f_2))] := hD
    refine lv_iinc (v := 1) (lv' := [(2, .int 1), (3, .int 60), (0, .ref a1), (1, .int 0)]) hx hb dJ7_fill_53178_14 hl (k := 1) rfl (by decide) (by decide) rfl (fun ls hl => ?_)
    refine lv_goto (tgt := 5) hx hb dJ7_fill_53178_17 (by decide) ?_
    refine lv_iload_n hx hb dJ7_fill_53178_5 rfl (lv_at hl 0 rfl) ?_
    refine lv_iload_n hx hb dJ7_fill_53178_6 rfl (lv_at hl 1 rfl) ?_
    refine lv_icmp_ge (tgt := 20) hx hb dJ7_fill_53178_7 (by decide) (fun c_3 => ?_) (fun c_3 => ?_)
    · skip
      exact absurd c_3 (by decide)
    · skip
      refine lv_aload_n hx hb dJ7_fill_53178_10 rfl (lv_at hl 2 rfl) ?_
      refine lv_iload_n hx hb dJ7_fill_53178_11 rfl (lv_at hl 0 rfl) ?_
      refine lv_iload_n hx hb dJ7_fill_53178_12 rfl (lv_at hl 3 rfl) ?_
      refine va_iast (D := (dC, dI)) hx hb hK.1 hP hD hS 0 0 rfl rfl (show ¬ _ by decide) dJ7_fill_53178_13 (fun H locs hP hD hS => ?_)
      generalize upd f_2 (1 : Int32).toNatClampNeg 0 = f_4 at hP hD
      have hP : va_P (dC, dI) vwCl [(a1, .inl (k 0, 60, .inl f_4))] H := hP
      have hD : va_D A [(a1, .inl (k 0, 60, .inl f_4))] := hD
      refine lv_iinc (v := 2) (lv' := [(2, .int 2), (3, .int 60), (0, .ref a1), (1, .int 0)]) hx hb dJ7_fill_53178_14 hl (k := 0) rfl (by decide) (by decide) rfl (fun ls hl => ?_)
      refine lv_goto (tgt := 5) hx hb dJ7_fill_53178_17 (by decide) ?_
      refine lv_iload_n hx hb dJ7_fill_53178_5 rfl (lv_at hl 0 rfl) ?_
      refine lv_iload_n hx hb dJ7_fill_53178_6 rfl (lv_at hl 1 rfl) ?_
      refine lv_icmp_ge (tgt := 20) hx hb dJ7_fill_53178_7 (by decide) (fun c_5 => ?_) (fun c_5 => ?_)
      · skip
        exact absurd c_5 (by decide)
      · skip
        refine lv_aload_n hx hb dJ7_fill_53178_10 rfl (lv_at hl 2 rfl) ?_
        refine lv_iload_n hx hb dJ7_fill_53178_11 rfl (lv_at hl 0 rfl) ?_
        refine lv_iload_n hx hb dJ7_fill_53178_12 rfl (lv_at hl 3 rfl) ?_
        refine va_iast (D := (dC, dI)) hx hb hK.1 hP hD hS 0 0 rfl rfl (show ¬ _ by decide) dJ7_fill_53178_13 (fun H locs hP hD hS => ?_)
        generalize upd f_4 (2 : Int32).toNatClampNeg 0 = f_6 at hP hD
        have hP : va_P (dC, dI) vwCl [(a1, .inl (k 0, 60, .inl f_6))] H := hP
        have hD : va_D A [(a1, .inl (k 0, 60, .inl f_6))] := hD
        refine lv_iinc (v := 3) (lv' := [(2, .int 3), (3, .int 60), (0, .ref a1), (1, .int 0)]) hx hb dJ7_fill_53178_14 hl (k := 0) rfl (by decide) (by decide) rfl (fun ls hl => ?_)
        refine lv_goto (tgt := 5) hx hb dJ7_fill_53178_17 (by decide) ?_
        refine lv_iload_n hx hb dJ7_fill_53178_5 rfl (lv_at hl 0 rfl) ?_
        refine lv_iload_n hx hb dJ7_fill_53178_6 rfl (lv_at hl 1 rfl) ?_
        refine lv_icmp_ge (tgt := 20) hx hb dJ7_fill_53178_7 (by decide) (fun c_7 => ?_) (fun c_7 => ?_)
        · skip
          exact absurd c_7 (by decide)
        · skip
          refine lv_aload_n hx hb dJ7_fill_53178_10 rfl (lv_at hl 2 rfl) ?_
          refine lv_iload_n hx hb dJ7_fill_53178_11 rfl (lv_at hl 0 rfl) ?_
          refine lv_iload_n hx hb dJ7_fill_53178_12 rfl (lv_at hl 3 rfl) ?_
          refine va_iast (D := (dC, dI)) hx hb hK.1 hP hD hS 0 0 rfl rfl (show ¬ _ by decide) dJ7_fill_53178_13 (fun H locs hP hD hS => ?_)
          generalize upd f_6 (3 : Int32).toNatClampNeg 0 = f_8 at hP hD
          have hP : va_P (dC, dI) vwCl [(a1, .inl (k 0, 60, .inl f_8))] H := hP
          have hD : va_D A [(a1, .inl (k 0, 60, .inl f_8))] := hD
          refine lv_iinc (v := 4) (lv' := [(2, .int 4), (3, .int 60), (0, .ref a1), (1, .int 0)]) hx hb dJ7_fill_53178_14 hl (k := 0) rfl (by decide) (by decide) rfl (fun ls hl => ?_)
          refine lv_goto (tgt := 5) hx hb dJ7_fill_53178_17 (by decide) ?_
          refine lv_iload_n hx hb dJ7_fill_53178_5 rfl (lv_at hl 0 rfl) ?_
          refine lv_iload_n hx hb dJ7_fill_53178_6 rfl (lv_at hl 1 rfl) ?_
          refine lv_icmp_ge (tgt := 20) hx hb dJ7_fill_53178_7 (by decide) (fun c_9 => ?_) (fun c_9 => ?_)
          · skip
            exact absurd c_9 (by decide)
          · skip
            refine lv_aload_n hx hb dJ7_fill_53178_10 rfl (lv_at hl 2 rfl) ?_
            refine lv_iload_n hx hb dJ7_fill_53178_11 rfl (lv_at hl 0 rfl) ?_
            refine lv_iload_n hx hb dJ7_fill_53178_12 rfl (lv_at hl 3 rfl) ?_
            refine va_iast (D := (dC, dI)) hx hb hK.1 hP hD hS 0 0 rfl rfl (show ¬ _ by decide) dJ7_fill_53178_13 (fun H locs hP hD hS => ?_)
            generalize upd f_8 (4 : Int32).toNatClampNeg 0 = f_10 at hP hD
            have hP : va_P (dC, dI) vwCl [(a1, .inl (k 0, 60, .inl f_10))] H := hP
            have hD : va_D A [(a1, .inl (k 0, 60, .inl f_10))] := hD
            refine lv_iinc (v := 5) (lv' := [(2, .int 5), (3, .int 60), (0, .ref a1), (1, .int 0)]) hx hb dJ7_fill_53178_14 hl (k := 0) rfl (by decide) (by decide) rfl (fun ls hl => ?_)
            refine lv_goto (tgt := 5) hx hb dJ7_fill_53178_17 (by decide) ?_
            refine lv_iload_n hx hb dJ7_fill_53178_5 rfl (lv_at hl 0 rfl) ?_
            refine lv_iload_n hx hb dJ7_fill_53178_6 rfl (lv_at hl 1 rfl) ?_
            refine lv_icmp_ge (tgt := 20) hx hb dJ7_fill_53178_7 (by decide) (fun c_11 => ?_) (fun c_11 => ?_)
            · skip
              exact absurd c_11 (by decide)
            · skip
              refine lv_aload_n hx hb dJ7_fill_53178_10 rfl (lv_at hl 2 rfl) ?_
              refine lv_iload_n hx hb dJ7_fill_53178_11 rfl (lv_at hl 0 rfl) ?_
              refine lv_iload_n hx hb dJ7_fill_53178_12 rfl (lv_at hl 3 rfl) ?_
              refine va_iast (D := (dC, dI)) hx hb hK.1 hP hD hS 0 0 rfl rfl (show ¬ _ by decide) dJ7_fill_53178_13 (fun H locs hP hD hS => ?_)
              generalize upd f_10 (5 : Int32).toNatClampNeg 0 = f_12 at hP hD
              have hP : va_P (dC, dI) vwCl [(a1, .inl (k 0, 60, .inl f_12))] H := hP
              have hD : va_D A [(a1, .inl (k 0, 60, .inl f_12))] := hD
              refine lv_iinc (v := 6) (lv' := [(2, .int 6), (3, .int 60), (0, .ref a1), (1, .int 0)]) hx hb dJ7_fill_53178_14 hl (k := 0) rfl (by decide) (by decide) rfl (fun ls hl => ?_)
              refine lv_goto (tgt := 5) hx hb dJ7_fill_53178_17 (by decide) ?_
              refine lv_iload_n hx hb dJ7_fill_53178_5 rfl (lv_at hl 0 rfl) ?_
              refine lv_iload_n hx hb dJ7_fill_53178_6 rfl (lv_at hl 1 rfl) ?_
              refine lv_icmp_ge (tgt := 20) hx hb dJ7_fill_53178_7 (by decide) (fun c_13 => ?_) (fun c_13 => ?_)
              · skip
                exact absurd c_13 (by decide)
              · skip
                refine lv_aload_n hx hb dJ7_fill_53178_10 rfl (lv_at hl 2 rfl) ?_
                refine lv_iload_n hx hb dJ7_fill_53178_11 rfl (lv_at hl 0 rfl) ?_
                refine lv_iload_n hx hb dJ7_fill_53178_12 rfl (lv_at hl 3 rfl) ?_
                refine va_iast (D := (dC, dI)) hx hb hK.1 hP hD hS 0 0 rfl rfl (show ¬ _ by decide) dJ7_fill_53178_13 (fun H locs hP hD hS => ?_)
                generalize upd f_12 (6 : Int32).toNatClampNeg 0 = f_14 at hP hD
                have hP : va_P (dC, dI) vwCl [(a1, .inl (k 0, 60, .inl f_14))] H := hP
                have hD : va_D A [(a1, .inl (k 0, 60, .inl f_14))] := hD
                refine lv_iinc (v := 7) (lv' := [(2, .int 7), (3, .int 60), (0, .ref a1), (1, .int 0)]) hx hb dJ7_fill_53178_14 hl (k := 0) rfl (by decide) (by decide) rfl (fun ls hl => ?_)
                refine lv_goto (tgt := 5) hx hb dJ7_fill_53178_17 (by decide) ?_
                refine lv_iload_n hx hb dJ7_fill_53178_5 rfl (lv_at hl 0 rfl) ?_
                refine lv_iload_n hx hb dJ7_fill_53178_6 rfl (lv_at hl 1 rfl) ?_
                refine lv_icmp_ge (tgt := 20) hx hb dJ7_fill_53178_7 (by decide) (fun c_15 => ?_) (fun c_15 => ?_)
                · skip
                  exact absurd c_15 (by decide)
                · skip
                  refine lv_aload_n hx hb dJ7_fill_53178_10 rfl (lv_at hl 2 rfl) ?_
                  refine lv_iload_n hx hb dJ7_fill_53178_11 rfl (lv_at hl 0 rfl) ?_
                  refine lv_iload_n hx hb dJ7_fill_53178_12 rfl (lv_at hl 3 rfl) ?_
                  refine va_iast (D := (dC, dI)) hx hb hK.1 hP hD hS 0 0 rfl rfl (show ¬ _ by decide) dJ7_fill_53178_13 (fun H locs hP hD hS => ?_)
                  generalize upd f_14 (7 : Int32).toNatClampNeg 0 = f_16 at hP hD
                  have hP : va_P (dC, dI) vwCl [(a1, .inl (k 0, 60, .inl f_16))] H := hP
                  have hD : va_D A [(a1, .inl (k 0, 60, .inl f_16))] := hD
                  refine lv_iinc (v := 8) (lv' := [(2, .int 8), (3, .int 60), (0, .ref a1), (1, .int 0)]) hx hb dJ7_fill_53178_14 hl (k := 0) rfl (by decide) (by decide) rfl (fun ls hl => ?_)
                  refine lv_goto (tgt := 5) hx hb dJ7_fill_53178_17 (by decide) ?_
                  refine lv_iload_n hx hb dJ7_fill_53178_5 rfl (lv_at hl 0 rfl) ?_
                  refine lv_iload_n hx hb dJ7_fill_53178_6 rfl (lv_at hl 1 rfl) ?_
                  refine lv_icmp_ge (tgt := 20) hx hb dJ7_fill_53178_7 (by decide) (fun c_17 => ?_) (fun c_17 => ?_)
                  · skip
                    exact absurd c_17 (by decide)
                  · skip
                    refine lv_aload_n hx hb dJ7_fill_53178_10 rfl (lv_at hl 2 rfl) ?_
                    refine lv_iload_n hx hb dJ7_fill_53178_11 rfl (lv_at hl 0 rfl) ?_
                    refine lv_iload_n hx hb dJ7_fill_53178_12 rfl (lv_at hl 3 rfl) ?_
                    refine va_iast (D := (dC, dI)) hx hb hK.1 hP hD hS 0 0 rfl rfl (show ¬ _ by decide) dJ7_fill_53178_13 (fun H locs hP hD hS => ?_)
                    generalize upd f_16 (8 : Int32).toNatClampNeg 0 = f_18 at hP hD
                    have hP : va_P (dC, dI) vwCl [(a1, .inl (k 0, 60, .inl f_18))] H := hP
                    have hD : va_D A [(a1, .inl (k 0, 60, .inl f_18))] := hD
                    refine lv_iinc (v := 9) (lv' := [(2, .int 9), (3, .int 60), (0, .ref a1), (1, .int 0)]) hx hb dJ7_fill_53178_14 hl (k := 0) rfl (by decide) (by decide) rfl (fun ls hl => ?_)
                    refine lv_goto (tgt := 5) hx hb dJ7_fill_53178_17 (by decide) ?_
                    refine lv_iload_n hx hb dJ7_fill_53178_5 rfl (lv_at hl 0 rfl) ?_
                    refine lv_iload_n hx hb dJ7_fill_53178_6 rfl (lv_at hl 1 rfl) ?_
                    refine lv_icmp_ge (tgt := 20) hx hb dJ7_fill_53178_7 (by decide) (fun c_19 => ?_) (fun c_19 => ?_)
                    · skip
                      exact absurd c_19 (by decide)
                    · skip
                      refine lv_aload_n hx hb dJ7_fill_53178_10 rfl (lv_at hl 2 rfl) ?_
                      refine lv_iload_n hx hb dJ7_fill_53178_11 rfl (lv_at hl 0 rfl) ?_
                      refine lv_iload_n hx hb dJ7_fill_53178_12 rfl (lv_at hl 3 rfl) ?_
                      refine va_iast (D := (dC, dI)) hx hb hK.1 hP hD hS 0 0 rfl rfl (show ¬ _ by decide) dJ7_fill_53178_13 (fun H locs hP hD hS => ?_)
                      generalize upd f_18 (9 : Int32).toNatClampNeg 0 = f_20 at hP hD
                      have hP : va_P (dC, dI) vwCl [(a1, .inl (k 0, 60, .inl f_20))] H := hP
                      have hD : va_D A [(a1, .inl (k 0, 60, .inl f_20))] := hD
                      refine lv_iinc (v := 10) (lv' := [(2, .int 10), (3, .int 60), (0, .ref a1), (1, .int 0)]) hx hb dJ7_fill_53178_14 hl (k := 0) rfl (by decide) (by decide) rfl (fun ls hl => ?_)
                      refine lv_goto (tgt := 5) hx hb dJ7_fill_53178_17 (by decide) ?_
                      refine lv_iload_n hx hb dJ7_fill_53178_5 rfl (lv_at hl 0 rfl) ?_
                      refine lv_iload_n hx hb dJ7_fill_53178_6 rfl (lv_at hl 1 rfl) ?_
                      refine lv_icmp_ge (tgt := 20) hx hb dJ7_fill_53178_7 (by decide) (fun c_21 => ?_) (fun c_21 => ?_)
                      · skip
                        exact absurd c_21 (by decide)
                      · skip
                        refine lv_aload_n hx hb dJ7_fill_53178_10 rfl (lv_at hl 2 rfl) ?_
                        refine lv_iload_n hx hb dJ7_fill_53178_11 rfl (lv_at hl 0 rfl) ?_
                        refine lv_iload_n hx hb dJ7_fill_53178_12 rfl (lv_at hl 3 rfl) ?_
                        refine va_iast (D := (dC, dI)) hx hb hK.1 hP hD hS 0 0 rfl rfl (show ¬ _ by decide) dJ7_fill_53178_13 (fun H locs hP hD hS => ?_)
                        generalize upd f_20 (10 : Int32).toNatClampNeg 0 = f_22 at hP hD
                        have hP : va_P (dC, dI) vwCl [(a1, .inl (k 0, 60, .inl f_22))] H := hP
                        have hD : va_D A [(a1, .inl (k 0, 60, .inl f_22))] := hD
                        refine lv_iinc (v := 11) (lv' := [(2, .int 11), (3, .int 60), (0, .ref a1), (1, .int 0)]) hx hb dJ7_fill_53178_14 hl (k := 0) rfl (by decide) (by decide) rfl (fun ls hl => ?_)
                        refine lv_goto (tgt := 5) hx hb dJ7_fill_53178_17 (by decide) ?_
                        refine lv_iload_n hx hb dJ7_fill_53178_5 rfl (lv_at hl 0 rfl) ?_
                        refine lv_iload_n hx hb dJ7_fill_53178_6 rfl (lv_at hl 1 rfl) ?_
                        refine lv_icmp_ge (tgt := 20) hx hb dJ7_fill_53178_7 (by decide) (fun c_23 => ?_) (fun c_23 => ?_)
                        · skip
                          exact absurd c_23 (by decide)
                        · skip
                          refine lv_aload_n hx hb dJ7_fill_53178_10 rfl (lv_at hl 2 rfl) ?_
                          refine lv_iload_n hx hb dJ7_fill_53178_11 rfl (lv_at hl 0 rfl) ?_
                          refine lv_iload_n hx hb dJ7_fill_53178_12 rfl (lv_at hl 3 rfl) ?_
                          refine va_iast (D := (dC, dI)) hx hb hK.1 hP hD hS 0 0 rfl rfl (show ¬ _ by decide) dJ7_fill_53178_13 (fun H locs hP hD hS => ?_)
                          generalize upd f_22 (11 : Int32).toNatClampNeg 0 = f_24 at hP hD
                          have hP : va_P (dC, dI) vwCl [(a1, .inl (k 0, 60, .inl f_24))] H := hP
                          have hD : va_D A [(a1, .inl (k 0, 60, .inl f_24))] := hD
                          refine lv_iinc (v := 12) (lv' := [(2, .int 12), (3, .int 60), (0, .ref a1), (1, .int 0)]) hx hb dJ7_fill_53178_14 hl (k := 0) rfl (by decide) (by decide) rfl (fun ls hl => ?_)
                          refine lv_goto (tgt := 5) hx hb dJ7_fill_53178_17 (by decide) ?_
                          refine lv_iload_n hx hb dJ7_fill_53178_5 rfl (lv_at hl 0 rfl) ?_
                          refine lv_iload_n hx hb dJ7_fill_53178_6 rfl (lv_at hl 1 rfl) ?_
                          refine lv_icmp_ge (tgt := 20) hx hb dJ7_fill_53178_7 (by decide) (fun c_25 => ?_) (fun c_25 => ?_)
                          · skip
                            exact absurd c_25 (by decide)
                          · skip
                            refine lv_aload_n hx hb dJ7_fill_53178_10 rfl (lv_at hl 2 rfl) ?_
                            refine lv_iload_n hx hb dJ7_fill_53178_11 rfl (lv_at hl 0 rfl) ?_
                            refine lv_iload_n hx hb dJ7_fill_53178_12 rfl (lv_at hl 3 rfl) ?_
                            refine va_iast (D := (dC, dI)) hx hb hK.1 hP hD hS 0 0 rfl rfl (show ¬ _ by decide) dJ7_fill_53178_13 (fun H locs hP hD hS => ?_)
                            generalize upd f_24 (12 : Int32).toNatClampNeg 0 = f_26 at hP hD
                            have hP : va_P (dC, dI) vwCl [(a1, .inl (k 0, 60, .inl f_26))] H := hP
                            have hD : va_D A [(a1, .inl (k 0, 60, .inl f_26))] := hD
                            refine lv_iinc (v := 13) (lv' := [(2, .int 13), (3, .int 60), (0, .ref a1), (1, .int 0)]) hx hb dJ7_fill_53178_14 hl (k := 0) rfl (by decide) (by decide) rfl (fun ls hl => ?_)
                            refine lv_goto (tgt := 5) hx hb dJ7_fill_53178_17 (by decide) ?_
                            refine lv_iload_n hx hb dJ7_fill_53178_5 rfl (lv_at hl 0 rfl) ?_
                            refine lv_iload_n hx hb dJ7_fill_53178_6 rfl (lv_at hl 1 rfl) ?_
                            refine lv_icmp_ge (tgt := 20) hx hb dJ7_fill_53178_7 (by decide) (fun c_27 => ?_) (fun c_27 => ?_)
                            · skip
                              exact absurd c_27 (by decide)
                            · skip
                              refine lv_aload_n hx hb dJ7_fill_53178_10 rfl (lv_at hl 2 rfl) ?_
                              refine lv_iload_n hx hb dJ7_fill_53178_11 rfl (lv_at hl 0 rfl) ?_
                              refine lv_iload_n hx hb dJ7_fill_53178_12 rfl (lv_at hl 3 rfl) ?_
                              refine va_iast (D := (dC, dI)) hx hb hK.1 hP hD hS 0 0 rfl rfl (show ¬ _ by decide) dJ7_fill_53178_13 (fun H locs hP hD hS => ?_)
                              generalize upd f_26 (13 : Int32).toNatClampNeg 0 = f_28 at hP hD
                              have hP : va_P (dC, dI) vwCl [(a1, .inl (k 0, 60, .inl f_28))] H := hP
                              have hD : va_D A [(a1, .inl (k 0, 60, .inl f_28))] := hD
                              refine lv_iinc (v := 14) (lv' := [(2, .int 14), (3, .int 60), (0, .ref a1), (1, .int 0)]) hx hb dJ7_fill_53178_14 hl (k := 0) rfl (by decide) (by decide) rfl (fun ls hl => ?_)
                              refine lv_goto (tgt := 5) hx hb dJ7_fill_53178_17 (by decide) ?_
                              refine lv_iload_n hx hb dJ7_fill_53178_5 rfl (lv_at hl 0 rfl) ?_
                              refine lv_iload_n hx hb dJ7_fill_53178_6 rfl (lv_at hl 1 rfl) ?_
                              refine lv_icmp_ge (tgt := 20) hx hb dJ7_fill_53178_7 (by decide) (fun c_29 => ?_) (fun c_29 => ?_)
                              · skip
                                exact absurd c_29 (by decide)
                              · skip
                                refine lv_aload_n hx hb dJ7_fill_53178_10 rfl (lv_at hl 2 rfl) ?_
                                refine lv_iload_n hx hb dJ7_fill_53178_11 rfl (lv_at hl 0 rfl) ?_
                                refine lv_iload_n hx hb dJ7_fill_53178_12 rfl (lv_at hl 3 rfl) ?_
                                refine va_iast (D := (dC, dI)) hx hb hK.1 hP hD hS 0 0 rfl rfl (show ¬ _ by decide) dJ7_fill_53178_13 (fun H locs hP hD hS => ?_)
                                generalize upd f_28 (14 : Int32).toNatClampNeg 0 = f_30 at hP hD
                                have hP : va_P (dC, dI) vwCl [(a1, .inl (k 0, 60, .inl f_30))] H := hP
                                have hD : va_D A [(a1, .inl (k 0, 60, .inl f_30))] := hD
                                refine lv_iinc (v := 15) (lv' := [(2, .int 15), (3, .int 60), (0, .ref a1), (1, .int 0)]) hx hb dJ7_fill_53178_14 hl (k := 0) rfl (by decide) (by decide) rfl (fun ls hl => ?_)
                                refine lv_goto (tgt := 5) hx hb dJ7_fill_53178_17 (by decide) ?_
                                refine lv_iload_n hx hb dJ7_fill_53178_5 rfl (lv_at hl 0 rfl) ?_
                                refine lv_iload_n hx hb dJ7_fill_53178_6 rfl (lv_at hl 1 rfl) ?_
                                refine lv_icmp_ge (tgt := 20) hx hb dJ7_fill_53178_7 (by decide) (fun c_31 => ?_) (fun c_31 => ?_)
                                · skip
                                  exact absurd c_31 (by decide)
                                · skip
                                  refine lv_aload_n hx hb dJ7_fill_53178_10 rfl (lv_at hl 2 rfl) ?_
                                  refine lv_iload_n hx hb dJ7_fill_53178_11 rfl (lv_at hl 0 rfl) ?_
                                  refine lv_iload_n hx hb dJ7_fill_53178_12 rfl (lv_at hl 3 rfl) ?_
                                  refine va_iast (D := (dC, dI)) hx hb hK.1 hP hD hS 0 0 rfl rfl (show ¬ _ by decide) dJ7_fill_53178_13 (fun H locs hP hD hS => ?_)
                                  generalize upd f_30 (15 : Int32).toNatClampNeg 0 = f_32 at hP hD
                                  have hP : va_P (dC, dI) vwCl [(a1, .inl (k 0, 60, .inl f_32))] H := hP
                                  have hD : va_D A [(a1, .inl (k 0, 60, .inl f_32))] := hD
                                  refine lv_iinc (v := 16) (lv' := [(2, .int 16), (3, .int 60), (0, .ref a1), (1, .int 0)]) hx hb dJ7_fill_53178_14 hl (k := 0) rfl (by decide) (by decide) rfl (fun ls hl => ?_)
                                  refine lv_goto (tgt := 5) hx hb dJ7_fill_53178_17 (by decide) ?_
                                  refine lv_iload_n hx hb dJ7_fill_53178_5 rfl (lv_at hl 0 rfl) ?_
                                  refine lv_iload_n hx hb dJ7_fill_53178_6 rfl (lv_at hl 1 rfl) ?_
                                  refine lv_icmp_ge (tgt := 20) hx hb dJ7_fill_53178_7 (by decide) (fun c_33 => ?_) (fun c_33 => ?_)
                                  · skip
                                    exact absurd c_33 (by decide)
                                  · skip
                                    refine lv_aload_n hx hb dJ7_fill_53178_10 rfl (lv_at hl 2 rfl) ?_
                                    refine lv_iload_n hx hb dJ7_fill_53178_11 rfl (lv_at hl 0 rfl) ?_
                                    refine lv_iload_n hx hb dJ7_fill_53178_12 rfl (lv_at hl 3 rfl) ?_
                                    refine va_iast (D := (dC, dI)) hx hb hK.1 hP hD hS 0 0 rfl rfl (show ¬ _ by decide) dJ7_fill_53178_13 (fun H locs hP hD hS => ?_)
                                    generalize upd f_32 (16 : Int32).toNatClampNeg 0 = f_34 at hP hD
                                    have hP : va_P (dC, dI) vwCl [(a1, .inl (k 0, 60, .inl f_34))] H := hP
                                    have hD : va_D A [(a1, .inl (k 0, 60, .inl f_34))] := hD
                                    refine lv_iinc (v := 17) (lv' := [(2, .int 17), (3, .int 60), (0, .ref a1), (1, .int 0)]) hx hb dJ7_fill_53178_14 hl (k := 0) rfl (by decide) (by decide) rfl (fun ls hl => ?_)
                                    refine lv_goto (tgt := 5) hx hb dJ7_fill_53178_17 (by decide) ?_
                                    refine lv_iload_n hx hb dJ7_fill_53178_5 rfl (lv_at hl 0 rfl) ?_
                                    refine lv_iload_n hx hb dJ7_fill_53178_6 rfl (lv_at hl 1 rfl) ?_
                                    refine lv_icmp_ge (tgt := 20) hx hb dJ7_fill_53178_7 (by decide) (fun c_35 => ?_) (fun c_35 => ?_)
                                    · skip
                                      exact absurd c_35 (by decide)
                                    · skip
                                      refine lv_aload_n hx hb dJ7_fill_53178_10 rfl (lv_at hl 2 rfl) ?_
                                      refine lv_iload_n hx hb dJ7_fill_53178_11 rfl (lv_at hl 0 rfl) ?_
                                      refine lv_iload_n hx hb dJ7_fill_53178_12 rfl (lv_at hl 3 rfl) ?_
                                      refine va_iast (D := (dC, dI)) hx hb hK.1 hP hD hS 0 0 rfl rfl (show ¬ _ by decide) dJ7_fill_53178_13 (fun H locs hP hD hS => ?_)
                                      generalize upd f_34 (17 : Int32).toNatClampNeg 0 = f_36 at hP hD
                                      have hP : va_P (dC, dI) vwCl [(a1, .inl (k 0, 60, .inl f_36))] H := hP
                                      have hD : va_D A [(a1, .inl (k 0, 60, .inl f_36))] := hD
                                      refine lv_iinc (v := 18) (lv' := [(2, .int 18), (3, .int 60), (0, .ref a1), (1, .int 0)]) hx hb dJ7_fill_53178_14 hl (k := 0) rfl (by decide) (by decide) rfl (fun ls hl => ?_)
                                      refine lv_goto (tgt := 5) hx hb dJ7_fill_53178_17 (by decide) ?_
                                      refine lv_iload_n hx hb dJ7_fill_53178_5 rfl (lv_at hl 0 rfl) ?_
                                      refine lv_iload_n hx hb dJ7_fill_53178_6 rfl (lv_at hl 1 rfl) ?_
                                      refine lv_icmp_ge (tgt := 20) hx hb dJ7_fill_53178_7 (by decide) (fun c_37 => ?_) (fun c_37 => ?_)
                                      · skip
                                        exact absurd c_37 (by decide)
                                      · skip
                                        refine lv_aload_n hx hb dJ7_fill_53178_10 rfl (lv_at hl 2 rfl) ?_
                                        refine lv_iload_n hx hb dJ7_fill_53178_11 rfl (lv_at hl 0 rfl) ?_
                                        refine lv_iload_n hx hb dJ7_fill_53178_12 rfl (lv_at hl 3 rfl) ?_
                                        refine va_iast (D := (dC, dI)) hx hb hK.1 hP hD hS 0 0 rfl rfl (show ¬ _ by decide) dJ7_fill_53178_13 (fun H locs hP hD hS => ?_)
                                        generalize upd f_36 (18 : Int32).toNatClampNeg 0 = f_38 at hP hD
                                        have hP : va_P (dC, dI) vwCl [(a1, .inl (k 0, 60, .inl f_38))] H := hP
                                        have hD : va_D A [(a1, .inl (k 0, 60, .inl f_38))] := hD
                                        refine lv_iinc (v := 19) (lv' := [(2, .int 19), (3, .int 60), (0, .ref a1), (1, .int 0)]) hx hb dJ7_fill_53178_14 hl (k := 0) rfl (by decide) (by decide) rfl (fun ls hl => ?_)
                                        refine lv_goto (tgt := 5) hx hb dJ7_fill_53178_17 (by decide) ?_
                                        refine lv_iload_n hx hb dJ7_fill_53178_5 rfl (lv_at hl 0 rfl) ?_
                                        refine lv_iload_n hx hb dJ7_fill_53178_6 rfl (lv_at hl 1 rfl) ?_
                                        refine lv_icmp_ge (tgt := 20) hx hb dJ7_fill_53178_7 (by decide) (fun c_39 => ?_) (fun c_39 => ?_)
                                        · skip
                                          exact absurd c_39 (by decide)
                                        · skip
                                          refine lv_aload_n hx hb dJ7_fill_53178_10 rfl (lv_at hl 2 rfl) ?_
                                          refine lv_iload_n hx hb dJ7_fill_53178_11 rfl (lv_at hl 0 rfl) ?_
                                          refine lv_iload_n hx hb dJ7_fill_53178_12 rfl (lv_at hl 3 rfl) ?_
                                          refine va_iast (D := (dC, dI)) hx hb hK.1 hP hD hS 0 0 rfl rfl (show ¬ _ by decide) dJ7_fill_53178_13 (fun H locs hP hD hS => ?_)
                                          generalize upd f_38 (19 : Int32).toNatClampNeg 0 = f_40 at hP hD
                                          have hP : va_P (dC, dI) vwCl [(a1, .inl (k 0, 60, .inl f_40))] H := hP
                                          have hD : va_D A [(a1, .inl (k 0, 60, .inl f_40))] := hD
                                          refine lv_iinc (v := 20) (lv' := [(2, .int 20), (3, .int 60), (0, .ref a1), (1, .int 0)]) hx hb dJ7_fill_53178_14 hl (k := 0) rfl (by decide) (by decide) rfl (fun ls hl => ?_)
                                          refine lv_goto (tgt := 5) hx hb dJ7_fill_53178_17 (by decide) ?_
                                          refine lv_iload_n hx hb dJ7_fill_53178_5 rfl (lv_at hl 0 rfl) ?_
                                          refine lv_iload_n hx hb dJ7_fill_53178_6 rfl (lv_at hl 1 rfl) ?_
                                          refine lv_icmp_ge (tgt := 20) hx hb dJ7_fill_53178_7 (by decide) (fun c_41 => ?_) (fun c_41 => ?_)
                                          · skip
                                            exact absurd c_41 (by decide)
                                          · skip
                                            refine lv_aload_n hx hb dJ7_fill_53178_10 rfl (lv_at hl 2 rfl) ?_
                                            refine lv_iload_n hx hb dJ7_fill_53178_11 rfl (lv_at hl 0 rfl) ?_
                                            refine lv_iload_n hx hb dJ7_fill_53178_12 rfl (lv_at hl 3 rfl) ?_
                                            refine va_iast (D := (dC, dI)) hx hb hK.1 hP hD hS 0 0 rfl rfl (show ¬ _ by decide) dJ7_fill_53178_13 (fun H locs hP hD hS => ?_)
                                            generalize upd f_40 (20 : Int32).toNatClampNeg 0 = f_42 at hP hD
                                            have hP : va_P (dC, dI) vwCl [(a1, .inl (k 0, 60, .inl f_42))] H := hP
                                            have hD : va_D A [(a1, .inl (k 0, 60, .inl f_42))] := hD
                                            refine lv_iinc (v := 21) (lv' := [(2, .int 21), (3, .int 60), (0, .ref a1), (1, .int 0)]) hx hb dJ7_fill_53178_14 hl (k := 0) rfl (by decide) (by decide) rfl (fun ls hl => ?_)
                                            refine lv_goto (tgt := 5) hx hb dJ7_fill_53178_17 (by decide) ?_
                                            refine lv_iload_n hx hb dJ7_fill_53178_5 rfl (lv_at hl 0 rfl) ?_
                                            refine lv_iload_n hx hb dJ7_fill_53178_6 rfl (lv_at hl 1 rfl) ?_
                                            refine lv_icmp_ge (tgt := 20) hx hb dJ7_fill_53178_7 (by decide) (fun c_43 => ?_) (fun c_43 => ?_)
                                            · skip
                                              exact absurd c_43 (by decide)
                                            · skip
                                              refine lv_aload_n hx hb dJ7_fill_53178_10 rfl (lv_at hl 2 rfl) ?_
                                              refine lv_iload_n hx hb dJ7_fill_53178_11 rfl (lv_at hl 0 rfl) ?_
                                              refine lv_iload_n hx hb dJ7_fill_53178_12 rfl (lv_at hl 3 rfl) ?_
                                              refine va_iast (D := (dC, dI)) hx hb hK.1 hP hD hS 0 0 rfl rfl (show ¬ _ by decide) dJ7_fill_53178_13 (fun H locs hP hD hS => ?_)
                                              generalize upd f_42 (21 : Int32).toNatClampNeg 0 = f_44 at hP hD
                                              have hP : va_P (dC, dI) vwCl [(a1, .inl (k 0, 60, .inl f_44))] H := hP
                                              have hD : va_D A [(a1, .inl (k 0, 60, .inl f_44))] := hD
                                              refine lv_iinc (v := 22) (lv' := [(2, .int 22), (3, .int 60), (0, .ref a1), (1, .int 0)]) hx hb dJ7_fill_53178_14 hl (k := 0) rfl (by decide) (by decide) rfl (fun ls hl => ?_)
                                              refine lv_goto (tgt := 5) hx hb dJ7_fill_53178_17 (by decide) ?_
                                              refine lv_iload_n hx hb dJ7_fill_53178_5 rfl (lv_at hl 0 rfl) ?_
                                              refine lv_iload_n hx hb dJ7_fill_53178_6 rfl (lv_at hl 1 rfl) ?_
                                              refine lv_icmp_ge (tgt := 20) hx hb dJ7_fill_53178_7 (by decide) (fun c_45 => ?_) (fun c_45 => ?_)
                                              · skip
                                                exact absurd c_45 (by decide)
                                              · skip
                                                refine lv_aload_n hx hb dJ7_fill_53178_10 rfl (lv_at hl 2 rfl) ?_
                                                refine lv_iload_n hx hb dJ7_fill_53178_11 rfl (lv_at hl 0 rfl) ?_
                                                refine lv_iload_n hx hb dJ7_fill_53178_12 rfl (lv_at hl 3 rfl) ?_
                                                refine va_iast (D := (dC, dI)) hx hb hK.1 hP hD hS 0 0 rfl rfl (show ¬ _ by decide) dJ7_fill_53178_13 (fun H locs hP hD hS => ?_)
                                                generalize upd f_44 (22 : Int32).toNatClampNeg 0 = f_46 at hP hD
                                                have hP : va_P (dC, dI) vwCl [(a1, .inl (k 0, 60, .inl f_46))] H := hP
                                                have hD : va_D A [(a1, .inl (k 0, 60, .inl f_46))] := hD
                                                refine lv_iinc (v := 23) (lv' := [(2, .int 23), (3, .int 60), (0, .ref a1), (1, .int 0)]) hx hb dJ7_fill_53178_14 hl (k := 0) rfl (by decide) (by decide) rfl (fun ls hl => ?_)
                                                refine lv_goto (tgt := 5) hx hb dJ7_fill_53178_17 (by decide) ?_
                                                refine lv_iload_n hx hb dJ7_fill_53178_5 rfl (lv_at hl 0 rfl) ?_
                                                refine lv_iload_n hx hb dJ7_fill_53178_6 rfl (lv_at hl 1 rfl) ?_
                                                refine lv_icmp_ge (tgt := 20) hx hb dJ7_fill_53178_7 (by decide) (fun c_47 => ?_) (fun c_47 => ?_)
                                                · skip
                                                  exact absurd c_47 (by decide)
                                                · skip
                                                  refine lv_aload_n hx hb dJ7_fill_53178_10 rfl (lv_at hl 2 rfl) ?_
                                                  refine lv_iload_n hx hb dJ7_fill_53178_11 rfl (lv_at hl 0 rfl) ?_
                                                  refine lv_iload_n hx hb dJ7_fill_53178_12 rfl (lv_at hl 3 rfl) ?_
                                                  refine va_iast (D := (dC, dI)) hx hb hK.1 hP hD hS 0 0 rfl rfl (show ¬ _ by decide) dJ7_fill_53178_13 (fun H locs hP hD hS => ?_)
                                                  generalize upd f_46 (23 : Int32).toNatClampNeg 0 = f_48 at hP hD
                                                  have hP : va_P (dC, dI) vwCl [(a1, .inl (k 0, 60, .inl f_48))] H := hP
                                                  have hD : va_D A [(a1, .inl (k 0, 60, .inl f_48))] := hD
                                                  refine lv_iinc (v := 24) (lv' := [(2, .int 24), (3, .int 60), (0, .ref a1), (1, .int 0)]) hx hb dJ7_fill_53178_14 hl (k := 0) rfl (by decide) (by decide) rfl (fun ls hl => ?_)
                                                  refine lv_goto (tgt := 5) hx hb dJ7_fill_53178_17 (by decide) ?_
                                                  refine lv_iload_n hx hb dJ7_fill_53178_5 rfl (lv_at hl 0 rfl) ?_
                                                  refine lv_iload_n hx hb dJ7_fill_53178_6 rfl (lv_at hl 1 rfl) ?_
                                                  refine lv_icmp_ge (tgt := 20) hx hb dJ7_fill_53178_7 (by decide) (fun c_49 => ?_) (fun c_49 => ?_)
                                                  · skip
                                                    exact absurd c_49 (by decide)
                                                  · skip
                                                    refine lv_aload_n hx hb dJ7_fill_53178_10 rfl (lv_at hl 2 rfl) ?_
                                                    refine lv_iload_n hx hb dJ7_fill_53178_11 rfl (lv_at hl 0 rfl) ?_
                                                    refine lv_iload_n hx hb dJ7_fill_53178_12 rfl (lv_at hl 3 rfl) ?_
                                                    refine va_iast (D := (dC, dI)) hx hb hK.1 hP hD hS 0 0 rfl rfl (show ¬ _ by decide) dJ7_fill_53178_13 (fun H locs hP hD hS => ?_)
                                                    generalize upd f_48 (24 : Int32).toNatClampNeg 0 = f_50 at hP hD
                                                    have hP : va_P (dC, dI) vwCl [(a1, .inl (k 0, 60, .inl f_50))] H := hP
                                                    have hD : va_D A [(a1, .inl (k 0, 60, .inl f_50))] := hD
                                                    refine lv_iinc (v := 25) (lv' := [(2, .int 25), (3, .int 60), (0, .ref a1), (1, .int 0)]) hx hb dJ7_fill_53178_14 hl (k := 0) rfl (by decide) (by decide) rfl (fun ls hl => ?_)
                                                    refine lv_goto (tgt := 5) hx hb dJ7_fill_53178_17 (by decide) ?_
                                                    refine lv_iload_n hx hb dJ7_fill_53178_5 rfl (lv_at hl 0 rfl) ?_
                                                    refine lv_iload_n hx hb dJ7_fill_53178_6 rfl (lv_at hl 1 rfl) ?_
                                                    refine lv_icmp_ge (tgt := 20) hx hb dJ7_fill_53178_7 (by decide) (fun c_51 => ?_) (fun c_51 => ?_)
                                                    · skip
                                                      exact absurd c_51 (by decide)
                                                    · skip
                                                      refine lv_aload_n hx hb dJ7_fill_53178_10 rfl (lv_at hl 2 rfl) ?_
                                                      refine lv_iload_n hx hb dJ7_fill_53178_11 rfl (lv_at hl 0 rfl) ?_
                                                      refine lv_iload_n hx hb dJ7_fill_53178_12 rfl (lv_at hl 3 rfl) ?_
                                                      refine va_iast (D := (dC, dI)) hx hb hK.1 hP hD hS 0 0 rfl rfl (show ¬ _ by decide) dJ7_fill_53178_13 (fun H locs hP hD hS => ?_)
                                                      generalize upd f_50 (25 : Int32).toNatClampNeg 0 = f_52 at hP hD
                                                      have hP : va_P (dC, dI) vwCl [(a1, .inl (k 0, 60, .inl f_52))] H := hP
                                                      have hD : va_D A [(a1, .inl (k 0, 60, .inl f_52))] := hD
                                                      refine lv_iinc (v := 26) (lv' := [(2, .int 26), (3, .int 60), (0, .ref a1), (1, .int 0)]) hx hb dJ7_fill_53178_14 hl (k := 0) rfl (by decide) (by decide) rfl (fun ls hl => ?_)
                                                      refine lv_goto (tgt := 5) hx hb dJ7_fill_53178_17 (by decide) ?_
                                                      refine lv_iload_n hx hb dJ7_fill_53178_5 rfl (lv_at hl 0 rfl) ?_
                                                      refine lv_iload_n hx hb dJ7_fill_53178_6 rfl (lv_at hl 1 rfl) ?_
                                                      refine lv_icmp_ge (tgt := 20) hx hb dJ7_fill_53178_7 (by decide) (fun c_53 => ?_) (fun c_53 => ?_)
                                                      · skip
                                                        exact absurd c_53 (by decide)
                                                      · skip
                                                        refine lv_aload_n hx hb dJ7_fill_53178_10 rfl (lv_at hl 2 rfl) ?_
                                                        refine lv_iload_n hx hb dJ7_fill_53178_11 rfl (lv_at hl 0 rfl) ?_
                                                        refine lv_iload_n hx hb dJ7_fill_53178_12 rfl (lv_at hl 3 rfl) ?_
                                                        refine va_iast (D := (dC, dI)) hx hb hK.1 hP hD hS 0 0 rfl rfl (show ¬ _ by decide) dJ7_fill_53178_13 (fun H locs hP hD hS => ?_)
                                                        generalize upd f_52 (26 : Int32).toNatClampNeg 0 = f_54 at hP hD
                                                        have hP : va_P (dC, dI) vwCl [(a1, .inl (k 0, 60, .inl f_54))] H := hP
                                                        have hD : va_D A [(a1, .inl (k 0, 60, .inl f_54))] := hD
                                                        refine lv_iinc (v := 27) (lv' := [(2, .int 27), (3, .int 60), (0, .ref a1), (1, .int 0)]) hx hb dJ7_fill_53178_14 hl (k := 0) rfl (by decide) (by decide) rfl (fun ls hl => ?_)
                                                        refine lv_goto (tgt := 5) hx hb dJ7_fill_53178_17 (by decide) ?_
                                                        refine lv_iload_n hx hb dJ7_fill_53178_5 rfl (lv_at hl 0 rfl) ?_
                                                        refine lv_iload_n hx hb dJ7_fill_53178_6 rfl (lv_at hl 1 rfl) ?_
                                                        refine lv_icmp_ge (tgt := 20) hx hb dJ7_fill_53178_7 (by decide) (fun c_55 => ?_) (fun c_55 => ?_)
                                                        · skip
                                                          exact absurd c_55 (by decide)
                                                        · skip
                                                          refine lv_aload_n hx hb dJ7_fill_53178_10 rfl (lv_at hl 2 rfl) ?_
                                                          refine lv_iload_n hx hb dJ7_fill_53178_11 rfl (lv_at hl 0 rfl) ?_
                                                          refine lv_iload_n hx hb dJ7_fill_53178_12 rfl (lv_at hl 3 rfl) ?_
                                                          refine va_iast (D := (dC, dI)) hx hb hK.1 hP hD hS 0 0 rfl rfl (show ¬ _ by decide) dJ7_fill_53178_13 (fun H locs hP hD hS => ?_)
                                                          generalize upd f_54 (27 : Int32).toNatClampNeg 0 = f_56 at hP hD
                                                          have hP : va_P (dC, dI) vwCl [(a1, .inl (k 0, 60, .inl f_56))] H := hP
                                                          have hD : va_D A [(a1, .inl (k 0, 60, .inl f_56))] := hD
                                                          refine lv_iinc (v := 28) (lv' := [(2, .int 28), (3, .int 60), (0, .ref a1), (1, .int 0)]) hx hb dJ7_fill_53178_14 hl (k := 0) rfl (by decide) (by decide) rfl (fun ls hl => ?_)
                                                          refine lv_goto (tgt := 5) hx hb dJ7_fill_53178_17 (by decide) ?_
                                                          refine lv_iload_n hx hb dJ7_fill_53178_5 rfl (lv_at hl 0 rfl) ?_
                                                          refine lv_iload_n hx hb dJ7_fill_53178_6 rfl (lv_at hl 1 rfl) ?_
                                                          refine lv_icmp_ge (tgt := 20) hx hb dJ7_fill_53178_7 (by decide) (fun c_57 => ?_) (fun c_57 => ?_)
                                                          · skip
                                                            exact absurd c_57 (by decide)
                                                          · skip
                                                            refine lv_aload_n hx hb dJ7_fill_53178_10 rfl (lv_at hl 2 rfl) ?_
                                                            refine lv_iload_n hx hb dJ7_fill_53178_11 rfl (lv_at hl 0 rfl) ?_
                                                            refine lv_iload_n hx hb dJ7_fill_53178_12 rfl (lv_at hl 3 rfl) ?_
                                                            refine va_iast (D := (dC, dI)) hx hb hK.1 hP hD hS 0 0 rfl rfl (show ¬ _ by decide) dJ7_fill_53178_13 (fun H locs hP hD hS => ?_)
                                                            generalize upd f_56 (28 : Int32).toNatClampNeg 0 = f_58 at hP hD
                                                            have hP : va_P (dC, dI) vwCl [(a1, .inl (k 0, 60, .inl f_58))] H := hP
                                                            have hD : va_D A [(a1, .inl (k 0, 60, .inl f_58))] := hD
                                                            refine lv_iinc (v := 29) (lv' := [(2, .int 29), (3, .int 60), (0, .ref a1), (1, .int 0)]) hx hb dJ7_fill_53178_14 hl (k := 0) rfl (by decide) (by decide) rfl (fun ls hl => ?_)
                                                            refine lv_goto (tgt := 5) hx hb dJ7_fill_53178_17 (by decide) ?_
                                                            refine lv_iload_n hx hb dJ7_fill_53178_5 rfl (lv_at hl 0 rfl) ?_
                                                            refine lv_iload_n hx hb dJ7_fill_53178_6 rfl (lv_at hl 1 rfl) ?_
                                                            refine lv_icmp_ge (tgt := 20) hx hb dJ7_fill_53178_7 (by decide) (fun c_59 => ?_) (fun c_59 => ?_)
                                                            · skip
                                                              exact absurd c_59 (by decide)
                                                            · skip
                                                              refine lv_aload_n hx hb dJ7_fill_53178_10 rfl (lv_at hl 2 rfl) ?_
                                                              refine lv_iload_n hx hb dJ7_fill_53178_11 rfl (lv_at hl 0 rfl) ?_
                                                              refine lv_iload_n hx hb dJ7_fill_53178_12 rfl (lv_at hl 3 rfl) ?_
                                                              refine va_iast (D := (dC, dI)) hx hb hK.1 hP hD hS 0 0 rfl rfl (show ¬ _ by decide) dJ7_fill_53178_13 (fun H locs hP hD hS => ?_)
                                                              generalize upd f_58 (29 : Int32).toNatClampNeg 0 = f_60 at hP hD
                                                              have hP : va_P (dC, dI) vwCl [(a1, .inl (k 0, 60, .inl f_60))] H := hP
                                                              have hD : va_D A [(a1, .inl (k 0, 60, .inl f_60))] := hD
                                                              refine lv_iinc (v := 30) (lv' := [(2, .int 30), (3, .int 60), (0, .ref a1), (1, .int 0)]) hx hb dJ7_fill_53178_14 hl (k := 0) rfl (by decide) (by decide) rfl (fun ls hl => ?_)
                                                              refine lv_goto (tgt := 5) hx hb dJ7_fill_53178_17 (by decide) ?_
                                                              refine lv_iload_n hx hb dJ7_fill_53178_5 rfl (lv_at hl 0 rfl) ?_
                                                              refine lv_iload_n hx hb dJ7_fill_53178_6 rfl (lv_at hl 1 rfl) ?_
                                                              refine lv_icmp_ge (tgt := 20) hx hb dJ7_fill_53178_7 (by decide) (fun c_61 => ?_) (fun c_61 => ?_)
                                                              · skip
                                                                exact absurd c_61 (by decide)
                                                              · skip
                                                                refine lv_aload_n hx hb dJ7_fill_53178_10 rfl (lv_at hl 2 rfl) ?_
                                                                refine lv_iload_n hx hb dJ7_fill_53178_11 rfl (lv_at hl 0 rfl) ?_
                                                                refine lv_iload_n hx hb dJ7_fill_53178_12 rfl (lv_at hl 3 rfl) ?_
                                                                refine va_iast (D := (dC, dI)) hx hb hK.1 hP hD hS 0 0 rfl rfl (show ¬ _ by decide) dJ7_fill_53178_13 (fun H locs hP hD hS => ?_)
                                                                generalize upd f_60 (30 : Int32).toNatClampNeg 0 = f_62 at hP hD
                                                                have hP : va_P (dC, dI) vwCl [(a1, .inl (k 0, 60, .inl f_62))] H := hP
                                                                have hD : va_D A [(a1, .inl (k 0, 60, .inl f_62))] := hD
                                                                refine lv_iinc (v := 31) (lv' := [(2, .int 31), (3, .int 60), (0, .ref a1), (1, .int 0)]) hx hb dJ7_fill_53178_14 hl (k := 0) rfl (by decide) (by decide) rfl (fun ls hl => ?_)
                                                                refine lv_goto (tgt := 5) hx hb dJ7_fill_53178_17 (by decide) ?_
                                                                refine lv_iload_n hx hb dJ7_fill_53178_5 rfl (lv_at hl 0 rfl) ?_
                                                                refine lv_iload_n hx hb dJ7_fill_53178_6 rfl (lv_at hl 1 rfl) ?_
                                                                refine lv_icmp_ge (tgt := 20) hx hb dJ7_fill_53178_7 (by decide) (fun c_63 => ?_) (fun c_63 => ?_)
                                                                · skip
                                                                  exact absurd c_63 (by decide)
                                                                · skip
                                                                  refine lv_aload_n hx hb dJ7_fill_53178_10 rfl (lv_at hl 2 rfl) ?_
                                                                  refine lv_iload_n hx hb dJ7_fill_53178_11 rfl (lv_at hl 0 rfl) ?_
                                                                  refine lv_iload_n hx hb dJ7_fill_53178_12 rfl (lv_at hl 3 rfl) ?_
                                                                  refine va_iast (D := (dC, dI)) hx hb hK.1 hP hD hS 0 0 rfl rfl (show ¬ _ by decide) dJ7_fill_53178_13 (fun H locs hP hD hS => ?_)
                                                                  generalize upd f_62 (31 : Int32).toNatClampNeg 0 = f_64 at hP hD
                                                                  have hP : va_P (dC, dI) vwCl [(a1, .inl (k 0, 60, .inl f_64))] H := hP
                                                                  have hD : va_D A [(a1, .inl (k 0, 60, .inl f_64))] := hD
                                                                  refine lv_iinc (v := 32) (lv' := [(2, .int 32), (3, .int 60), (0, .ref a1), (1, .int 0)]) hx hb dJ7_fill_53178_14 hl (k := 0) rfl (by decide) (by decide) rfl (fun ls hl => ?_)
                                                                  refine lv_goto (tgt := 5) hx hb dJ7_fill_53178_17 (by decide) ?_
                                                                  refine lv_iload_n hx hb dJ7_fill_53178_5 rfl (lv_at hl 0 rfl) ?_
                                                                  refine lv_iload_n hx hb dJ7_fill_53178_6 rfl (lv_at hl 1 rfl) ?_
                                                                  refine lv_icmp_ge (tgt := 20) hx hb dJ7_fill_53178_7 (by decide) (fun c_65 => ?_) (fun c_65 => ?_)
                                                                  · skip
                                                                    exact absurd c_65 (by decide)
                                                                  · skip
                                                                    refine lv_aload_n hx hb dJ7_fill_53178_10 rfl (lv_at hl 2 rfl) ?_
                                                                    refine lv_iload_n hx hb dJ7_fill_53178_11 rfl (lv_at hl 0 rfl) ?_
                                                                    refine lv_iload_n hx hb dJ7_fill_53178_12 rfl (lv_at hl 3 rfl) ?_
                                                                    refine va_iast (D := (dC, dI)) hx hb hK.1 hP hD hS 0 0 rfl rfl (show ¬ _ by decide) dJ7_fill_53178_13 (fun H locs hP hD hS => ?_)
                                                                    generalize upd f_64 (32 : Int32).toNatClampNeg 0 = f_66 at hP hD
                                                                    have hP : va_P (dC, dI) vwCl [(a1, .inl (k 0, 60, .inl f_66))] H := hP
                                                                    have hD : va_D A [(a1, .inl (k 0, 60, .inl f_66))] := hD
                                                                    refine lv_iinc (v := 33) (lv' := [(2, .int 33), (3, .int 60), (0, .ref a1), (1, .int 0)]) hx hb dJ7_fill_53178_14 hl (k := 0) rfl (by decide) (by decide) rfl (fun ls hl => ?_)
                                                                    refine lv_goto (tgt := 5) hx hb dJ7_fill_53178_17 (by decide) ?_
                                                                    refine lv_iload_n hx hb dJ7_fill_53178_5 rfl (lv_at hl 0 rfl) ?_
                                                                    refine lv_iload_n hx hb dJ7_fill_53178_6 rfl (lv_at hl 1 rfl) ?_
                                                                    refine lv_icmp_ge (tgt := 20) hx hb dJ7_fill_53178_7 (by decide) (fun c_67 => ?_) (fun c_67 => ?_)
                                                                    · skip
                                                                      exact absurd c_67 (by decide)
                                                                    · skip
                                                                      refine lv_aload_n hx hb dJ7_fill_53178_10 rfl (lv_at hl 2 rfl) ?_
                                                                      refine lv_iload_n hx hb dJ7_fill_53178_11 rfl (lv_at hl 0 rfl) ?_
                                                                      refine lv_iload_n hx hb dJ7_fill_53178_12 rfl (lv_at hl 3 rfl) ?_
                                                                      refine va_iast (D := (dC, dI)) hx hb hK.1 hP hD hS 0 0 rfl rfl (show ¬ _ by decide) dJ7_fill_53178_13 (fun H locs hP hD hS => ?_)
                                                                      generalize upd f_66 (33 : Int32).toNatClampNeg 0 = f_68 at hP hD
                                                                      have hP : va_P (dC, dI) vwCl [(a1, .inl (k 0, 60, .inl f_68))] H := hP
                                                                      have hD : va_D A [(a1, .inl (k 0, 60, .inl f_68))] := hD
                                                                      refine lv_iinc (v := 34) (lv' := [(2, .int 34), (3, .int 60), (0, .ref a1), (1, .int 0)]) hx hb dJ7_fill_53178_14 hl (k := 0) rfl (by decide) (by decide) rfl (fun ls hl => ?_)
                                                                      refine lv_goto (tgt := 5) hx hb dJ7_fill_53178_17 (by decide) ?_
                                                                      refine lv_iload_n hx hb dJ7_fill_53178_5 rfl (lv_at hl 0 rfl) ?_
                                                                      refine lv_iload_n hx hb dJ7_fill_53178_6 rfl (lv_at hl 1 rfl) ?_
                                                                      refine lv_icmp_ge (tgt := 20) hx hb dJ7_fill_53178_7 (by decide) (fun c_69 => ?_) (fun c_69 => ?_)
                                                                      · skip
                                                                        exact absurd c_69 (by decide)
                                                                      · skip
                                                                        refine lv_aload_n hx hb dJ7_fill_53178_10 rfl (lv_at hl 2 rfl) ?_
                                                                        refine lv_iload_n hx hb dJ7_fill_53178_11 rfl (lv_at hl 0 rfl) ?_
                                                                        refine lv_iload_n hx hb dJ7_fill_53178_12 rfl (lv_at hl 3 rfl) ?_
                                                                        refine va_iast (D := (dC, dI)) hx hb hK.1 hP hD hS 0 0 rfl rfl (show ¬ _ by decide) dJ7_fill_53178_13 (fun H locs hP hD hS => ?_)
                                                                        generalize upd f_68 (34 : Int32).toNatClampNeg 0 = f_70 at hP hD
                                                                        have hP : va_P (dC, dI) vwCl [(a1, .inl (k 0, 60, .inl f_70))] H := hP
                                                                        have hD : va_D A [(a1, .inl (k 0, 60, .inl f_70))] := hD
                                                                        refine lv_iinc (v := 35) (lv' := [(2, .int 35), (3, .int 60), (0, .ref a1), (1, .int 0)]) hx hb dJ7_fill_53178_14 hl (k := 0) rfl (by decide) (by decide) rfl (fun ls hl => ?_)
                                                                        refine lv_goto (tgt := 5) hx hb dJ7_fill_53178_17 (by decide) ?_
                                                                        refine lv_iload_n hx hb dJ7_fill_53178_5 rfl (lv_at hl 0 rfl) ?_
                                                                        refine lv_iload_n hx hb dJ7_fill_53178_6 rfl (lv_at hl 1 rfl) ?_
                                                                        refine lv_icmp_ge (tgt := 20) hx hb dJ7_fill_53178_7 (by decide) (fun c_71 => ?_) (fun c_71 => ?_)
                                                                        · skip
                                                                          exact absurd c_71 (by decide)
                                                                        · skip
                                                                          refine lv_aload_n hx hb dJ7_fill_53178_10 rfl (lv_at hl 2 rfl) ?_
                                                                          refine lv_iload_n hx hb dJ7_fill_53178_11 rfl (lv_at hl 0 rfl) ?_
                                                                          refine lv_iload_n hx hb dJ7_fill_53178_12 rfl (lv_at hl 3 rfl) ?_
                                                                          refine va_iast (D := (dC, dI)) hx hb hK.1 hP hD hS 0 0 rfl rfl (show ¬ _ by decide) dJ7_fill_53178_13 (fun H locs hP hD hS => ?_)
                                                                          generalize upd f_70 (35 : Int32).toNatClampNeg 0 = f_72 at hP hD
                                                                          have hP : va_P (dC, dI) vwCl [(a1, .inl (k 0, 60, .inl f_72))] H := hP
                                                                          have hD : va_D A [(a1, .inl (k 0, 60, .inl f_72))] := hD
                                                                          refine lv_iinc (v := 36) (lv' := [(2, .int 36), (3, .int 60), (0, .ref a1), (1, .int 0)]) hx hb dJ7_fill_53178_14 hl (k := 0) rfl (by decide) (by decide) rfl (fun ls hl => ?_)
                                                                          refine lv_goto (tgt := 5) hx hb dJ7_fill_53178_17 (by decide) ?_
                                                                          refine lv_iload_n hx hb dJ7_fill_53178_5 rfl (lv_at hl 0 rfl) ?_
                                                                          refine lv_iload_n hx hb dJ7_fill_53178_6 rfl (lv_at hl 1 rfl) ?_
                                                                          refine lv_icmp_ge (tgt := 20) hx hb dJ7_fill_53178_7 (by decide) (fun c_73 => ?_) (fun c_73 => ?_)
                                                                          · skip
                                                                            exact absurd c_73 (by decide)
                                                                          · skip
                                                                            refine lv_aload_n hx hb dJ7_fill_53178_10 rfl (lv_at hl 2 rfl) ?_
                                                                            refine lv_iload_n hx hb dJ7_fill_53178_11 rfl (lv_at hl 0 rfl) ?_
                                                                            refine lv_iload_n hx hb dJ7_fill_53178_12 rfl (lv_at hl 3 rfl) ?_
                                                                            refine va_iast (D := (dC, dI)) hx hb hK.1 hP hD hS 0 0 rfl rfl (show ¬ _ by decide) dJ7_fill_53178_13 (fun H locs hP hD hS => ?_)
                                                                            generalize upd f_72 (36 : Int32).toNatClampNeg 0 = f_74 at hP hD
                                                                            have hP : va_P (dC, dI) vwCl [(a1, .inl (k 0, 60, .inl f_74))] H := hP
                                                                            have hD : va_D A [(a1, .inl (k 0, 60, .inl f_74))] := hD
                                                                            refine lv_iinc (v := 37) (lv' := [(2, .int 37), (3, .int 60), (0, .ref a1), (1, .int 0)]) hx hb dJ7_fill_53178_14 hl (k := 0) rfl (by decide) (by decide) rfl (fun ls hl => ?_)
                                                                            refine lv_goto (tgt := 5) hx hb dJ7_fill_53178_17 (by decide) ?_
                                                                            refine lv_iload_n hx hb dJ7_fill_53178_5 rfl (lv_at hl 0 rfl) ?_
                                                                            refine lv_iload_n hx hb dJ7_fill_53178_6 rfl (lv_at hl 1 rfl) ?_
                                                                            refine lv_icmp_ge (tgt := 20) hx hb dJ7_fill_53178_7 (by decide) (fun c_75 => ?_) (fun c_75 => ?_)
                                                                            · skip
                                                                              exact absurd c_75 (by decide)
                                                                            · skip
                                                                              refine lv_aload_n hx hb dJ7_fill_53178_10 rfl (lv_at hl 2 rfl) ?_
                                                                              refine lv_iload_n hx hb dJ7_fill_53178_11 rfl (lv_at hl 0 rfl) ?_
                                                                              refine lv_iload_n hx hb dJ7_fill_53178_12 rfl (lv_at hl 3 rfl) ?_
                                                                              refine va_iast (D := (dC, dI)) hx hb hK.1 hP hD hS 0 0 rfl rfl (show ¬ _ by decide) dJ7_fill_53178_13 (fun H locs hP hD hS => ?_)
                                                                              generalize upd f_74 (37 : Int32).toNatClampNeg 0 = f_76 at hP hD
                                                                              have hP : va_P (dC, dI) vwCl [(a1, .inl (k 0, 60, .inl f_76))] H := hP
                                                                              have hD : va_D A [(a1, .inl (k 0, 60, .inl f_76))] := hD
                                                                              refine lv_iinc (v := 38) (lv' := [(2, .int 38), (3, .int 60), (0, .ref a1), (1, .int 0)]) hx hb dJ7_fill_53178_14 hl (k := 0) rfl (by decide) (by decide) rfl (fun ls hl => ?_)
                                                                              refine lv_goto (tgt := 5) hx hb dJ7_fill_53178_17 (by decide) ?_
                                                                              refine lv_iload_n hx hb dJ7_fill_53178_5 rfl (lv_at hl 0 rfl) ?_
                                                                              refine lv_iload_n hx hb dJ7_fill_53178_6 rfl (lv_at hl 1 rfl) ?_
                                                                              refine lv_icmp_ge (tgt := 20) hx hb dJ7_fill_53178_7 (by decide) (fun c_77 => ?_) (fun c_77 => ?_)
                                                                              · skip
                                                                                exact absurd c_77 (by decide)
                                                                              · skip
                                                                                refine lv_aload_n hx hb dJ7_fill_53178_10 rfl (lv_at hl 2 rfl) ?_
                                                                                refine lv_iload_n hx hb dJ7_fill_53178_11 rfl (lv_at hl 0 rfl) ?_
                                                                                refine lv_iload_n hx hb dJ7_fill_53178_12 rfl (lv_at hl 3 rfl) ?_
                                                                                refine va_iast (D := (dC, dI)) hx hb hK.1 hP hD hS 0 0 rfl rfl (show ¬ _ by decide) dJ7_fill_53178_13 (fun H locs hP hD hS => ?_)
                                                                                generalize upd f_76 (38 : Int32).toNatClampNeg 0 = f_78 at hP hD
                                                                                have hP : va_P (dC, dI) vwCl [(a1, .inl (k 0, 60, .inl f_78))] H := hP
                                                                                have hD : va_D A [(a1, .inl (k 0, 60, .inl f_78))] := hD
                                                                                refine lv_iinc (v := 39) (lv' := [(2, .int 39), (3, .int 60), (0, .ref a1), (1, .int 0)]) hx hb dJ7_fill_53178_14 hl (k := 0) rfl (by decide) (by decide) rfl (fun ls hl => ?_)
                                                                                refine lv_goto (tgt := 5) hx hb dJ7_fill_53178_17 (by decide) ?_
                                                                                refine lv_iload_n hx hb dJ7_fill_53178_5 rfl (lv_at hl 0 rfl) ?_
                                                                                refine lv_iload_n hx hb dJ7_fill_53178_6 rfl (lv_at hl 1 rfl) ?_
                                                                                refine lv_icmp_ge (tgt := 20) hx hb dJ7_fill_53178_7 (by decide) (fun c_79 => ?_) (fun c_79 => ?_)
                                                                                · skip
                                                                                  exact absurd c_79 (by decide)
                                                                                · skip
                                                                                  refine lv_aload_n hx hb dJ7_fill_53178_10 rfl (lv_at hl 2 rfl) ?_
                                                                                  refine lv_iload_n hx hb dJ7_fill_53178_11 rfl (lv_at hl 0 rfl) ?_
                                                                                  refine lv_iload_n hx hb dJ7_fill_53178_12 rfl (lv_at hl 3 rfl) ?_
                                                                                  refine va_iast (D := (dC, dI)) hx hb hK.1 hP hD hS 0 0 rfl rfl (show ¬ _ by decide) dJ7_fill_53178_13 (fun H locs hP hD hS => ?_)
                                                                                  generalize upd f_78 (39 : Int32).toNatClampNeg 0 = f_80 at hP hD
                                                                                  have hP : va_P (dC, dI) vwCl [(a1, .inl (k 0, 60, .inl f_80))] H := hP
                                                                                  have hD : va_D A [(a1, .inl (k 0, 60, .inl f_80))] := hD
                                                                                  refine lv_iinc (v := 40) (lv' := [(2, .int 40), (3, .int 60), (0, .ref a1), (1, .int 0)]) hx hb dJ7_fill_53178_14 hl (k := 0) rfl (by decide) (by decide) rfl (fun ls hl => ?_)
                                                                                  refine lv_goto (tgt := 5) hx hb dJ7_fill_53178_17 (by decide) ?_
                                                                                  refine lv_iload_n hx hb dJ7_fill_53178_5 rfl (lv_at hl 0 rfl) ?_
                                                                                  refine lv_iload_n hx hb dJ7_fill_53178_6 rfl (lv_at hl 1 rfl) ?_
                                                                                  refine lv_icmp_ge (tgt := 20) hx hb dJ7_fill_53178_7 (by decide) (fun c_81 => ?_) (fun c_81 => ?_)
                                                                                  · skip
                                                                                    exact absurd c_81 (by decide)
                                                                                  · skip
                                                                                    refine lv_aload_n hx hb dJ7_fill_53178_10 rfl (lv_at hl 2 rfl) ?_
                                                                                    refine lv_iload_n hx hb dJ7_fill_53178_11 rfl (lv_at hl 0 rfl) ?_
                                                                                    refine lv_iload_n hx hb dJ7_fill_53178_12 rfl (lv_at hl 3 rfl) ?_
                                                                                    refine va_iast (D := (dC, dI)) hx hb hK.1 hP hD hS 0 0 rfl rfl (show ¬ _ by decide) dJ7_fill_53178_13 (fun H locs hP hD hS => ?_)
                                                                                    generalize upd f_80 (40 : Int32).toNatClampNeg 0 = f_82 at hP hD
                                                                                    have hP : va_P (dC, dI) vwCl [(a1, .inl (k 0, 60, .inl f_82))] H := hP
                                                                                    have hD : va_D A [(a1, .inl (k 0, 60, .inl f_82))] := hD
                                                                                    refine lv_iinc (v := 41) (lv' := [(2, .int 41), (3, .int 60), (0, .ref a1), (1, .int 0)]) hx hb dJ7_fill_53178_14 hl (k := 0) rfl (by decide) (by decide) rfl (fun ls hl => ?_)
                                                                                    refine lv_goto (tgt := 5) hx hb dJ7_fill_53178_17 (by decide) ?_
                                                                                    refine lv_iload_n hx hb dJ7_fill_53178_5 rfl (lv_at hl 0 rfl) ?_
                                                                                    refine lv_iload_n hx hb dJ7_fill_53178_6 rfl (lv_at hl 1 rfl) ?_
                                                                                    refine lv_icmp_ge (tgt := 20) hx hb dJ7_fill_53178_7 (by decide) (fun c_83 => ?_) (fun c_83 => ?_)
                                                                                    · skip
                                                                                      exact absurd c_83 (by decide)
                                                                                    · skip
                                                                                      refine lv_aload_n hx hb dJ7_fill_53178_10 rfl (lv_at hl 2 rfl) ?_
                                                                                      refine lv_iload_n hx hb dJ7_fill_53178_11 rfl (lv_at hl 0 rfl) ?_
                                                                                      refine lv_iload_n hx hb dJ7_fill_53178_12 rfl (lv_at hl 3 rfl) ?_
                                                                                      refine va_iast (D := (dC, dI)) hx hb hK.1 hP hD hS 0 0 rfl rfl (show ¬ _ by decide) dJ7_fill_53178_13 (fun H locs hP hD hS => ?_)
                                                                                      generalize upd f_82 (41 : Int32).toNatClampNeg 0 = f_84 at hP hD
                                                                                      have hP : va_P (dC, dI) vwCl [(a1, .inl (k 0, 60, .inl f_84))] H := hP
                                                                                      have hD : va_D A [(a1, .inl (k 0, 60, .inl f_84))] := hD
                                                                                      refine lv_iinc (v := 42) (lv' := [(2, .int 42), (3, .int 60), (0, .ref a1), (1, .int 0)]) hx hb dJ7_fill_53178_14 hl (k := 0) rfl (by decide) (by decide) rfl (fun ls hl => ?_)
                                                                                      refine lv_goto (tgt := 5) hx hb dJ7_fill_53178_17 (by decide) ?_
                                                                                      refine lv_iload_n hx hb dJ7_fill_53178_5 rfl (lv_at hl 0 rfl) ?_
                                                                                      refine lv_iload_n hx hb dJ7_fill_53178_6 rfl (lv_at hl 1 rfl) ?_
                                                                                      refine lv_icmp_ge (tgt := 20) hx hb dJ7_fill_53178_7 (by decide) (fun c_85 => ?_) (fun c_85 => ?_)
                                                                                      · skip
                                                                                        exact absurd c_85 (by decide)
                                                                                      · skip
                                                                                        refine lv_aload_n hx hb dJ7_fill_53178_10 rfl (lv_at hl 2 rfl) ?_
                                                                                        refine lv_iload_n hx hb dJ7_fill_53178_11 rfl (lv_at hl 0 rfl) ?_
                                                                                        refine lv_iload_n hx hb dJ7_fill_53178_12 rfl (lv_at hl 3 rfl) ?_
                                                                                        refine va_iast (D := (dC, dI)) hx hb hK.1 hP hD hS 0 0 rfl rfl (show ¬ _ by decide) dJ7_fill_53178_13 (fun H locs hP hD hS => ?_)
                                                                                        generalize upd f_84 (42 : Int32).toNatClampNeg 0 = f_86 at hP hD
                                                                                        have hP : va_P (dC, dI) vwCl [(a1, .inl (k 0, 60, .inl f_86))] H := hP
                                                                                        have hD : va_D A [(a1, .inl (k 0, 60, .inl f_86))] := hD
                                                                                        refine lv_iinc (v := 43) (lv' := [(2, .int 43), (3, .int 60), (0, .ref a1), (1, .int 0)]) hx hb dJ7_fill_53178_14 hl (k := 0) rfl (by decide) (by decide) rfl (fun ls hl => ?_)
                                                                                        refine lv_goto (tgt := 5) hx hb dJ7_fill_53178_17 (by decide) ?_
                                                                                        refine lv_iload_n hx hb dJ7_fill_53178_5 rfl (lv_at hl 0 rfl) ?_
                                                                                        refine lv_iload_n hx hb dJ7_fill_53178_6 rfl (lv_at hl 1 rfl) ?_
                                                                                        refine lv_icmp_ge (tgt := 20) hx hb dJ7_fill_53178_7 (by decide) (fun c_87 => ?_) (fun c_87 => ?_)
                                                                                        · skip
                                                                                          exact absurd c_87 (by decide)
                                                                                        · skip
                                                                                          refine lv_aload_n hx hb dJ7_fill_53178_10 rfl (lv_at hl 2 rfl) ?_
                                                                                          refine lv_iload_n hx hb dJ7_fill_53178_11 rfl (lv_at hl 0 rfl) ?_
                                                                                          refine lv_iload_n hx hb dJ7_fill_53178_12 rfl (lv_at hl 3 rfl) ?_
                                                                                          refine va_iast (D := (dC, dI)) hx hb hK.1 hP hD hS 0 0 rfl rfl (show ¬ _ by decide) dJ7_fill_53178_13 (fun H locs hP hD hS => ?_)
                                                                                          generalize upd f_86 (43 : Int32).toNatClampNeg 0 = f_88 at hP hD
                                                                                          have hP : va_P (dC, dI) vwCl [(a1, .inl (k 0, 60, .inl f_88))] H := hP
                                                                                          have hD : va_D A [(a1, .inl (k 0, 60, .inl f_88))] := hD
                                                                                          refine lv_iinc (v := 44) (lv' := [(2, .int 44), (3, .int 60), (0, .ref a1), (1, .int 0)]) hx hb dJ7_fill_53178_14 hl (k := 0) rfl (by decide) (by decide) rfl (fun ls hl => ?_)
                                                                                          refine lv_goto (tgt := 5) hx hb dJ7_fill_53178_17 (by decide) ?_
                                                                                          refine lv_iload_n hx hb dJ7_fill_53178_5 rfl (lv_at hl 0 rfl) ?_
                                                                                          refine lv_iload_n hx hb dJ7_fill_53178_6 rfl (lv_at hl 1 rfl) ?_
                                                                                          refine lv_icmp_ge (tgt := 20) hx hb dJ7_fill_53178_7 (by decide) (fun c_89 => ?_) (fun c_89 => ?_)
                                                                                          · skip
                                                                                            exact absurd c_89 (by decide)
                                                                                          · skip
                                                                                            refine lv_aload_n hx hb dJ7_fill_53178_10 rfl (lv_at hl 2 rfl) ?_
                                                                                            refine lv_iload_n hx hb dJ7_fill_53178_11 rfl (lv_at hl 0 rfl) ?_
                                                                                            refine lv_iload_n hx hb dJ7_fill_53178_12 rfl (lv_at hl 3 rfl) ?_
                                                                                            refine va_iast (D := (dC, dI)) hx hb hK.1 hP hD hS 0 0 rfl rfl (show ¬ _ by decide) dJ7_fill_53178_13 (fun H locs hP hD hS => ?_)
                                                                                            generalize upd f_88 (44 : Int32).toNatClampNeg 0 = f_90 at hP hD
                                                                                            have hP : va_P (dC, dI) vwCl [(a1, .inl (k 0, 60, .inl f_90))] H := hP
                                                                                            have hD : va_D A [(a1, .inl (k 0, 60, .inl f_90))] := hD
                                                                                            refine lv_iinc (v := 45) (lv' := [(2, .int 45), (3, .int 60), (0, .ref a1), (1, .int 0)]) hx hb dJ7_fill_53178_14 hl (k := 0) rfl (by decide) (by decide) rfl (fun ls hl => ?_)
                                                                                            refine lv_goto (tgt := 5) hx hb dJ7_fill_53178_17 (by decide) ?_
                                                                                            refine lv_iload_n hx hb dJ7_fill_53178_5 rfl (lv_at hl 0 rfl) ?_
                                                                                            refine lv_iload_n hx hb dJ7_fill_53178_6 rfl (lv_at hl 1 rfl) ?_
                                                                                            refine lv_icmp_ge (tgt := 20) hx hb dJ7_fill_53178_7 (by decide) (fun c_91 => ?_) (fun c_91 => ?_)
                                                                                            · skip
                                                                                              exact absurd c_91 (by decide)
                                                                                            · skip
                                                                                              refine lv_aload_n hx hb dJ7_fill_53178_10 rfl (lv_at hl 2 rfl) ?_
                                                                                              refine lv_iload_n hx hb dJ7_fill_53178_11 rfl (lv_at hl 0 rfl) ?_
                                                                                              refine lv_iload_n hx hb dJ7_fill_53178_12 rfl (lv_at hl 3 rfl) ?_
                                                                                              refine va_iast (D := (dC, dI)) hx hb hK.1 hP hD hS 0 0 rfl rfl (show ¬ _ by decide) dJ7_fill_53178_13 (fun H locs hP hD hS => ?_)
                                                                                              generalize upd f_90 (45 : Int32).toNatClampNeg 0 = f_92 at hP hD
                                                                                              have hP : va_P (dC, dI) vwCl [(a1, .inl (k 0, 60, .inl f_92))] H := hP
                                                                                              have hD : va_D A [(a1, .inl (k 0, 60, .inl f_92))] := hD
                                                                                              refine lv_iinc (v := 46) (lv' := [(2, .int 46), (3, .int 60), (0, .ref a1), (1, .int 0)]) hx hb dJ7_fill_53178_14 hl (k := 0) rfl (by decide) (by decide) rfl (fun ls hl => ?_)
                                                                                              refine lv_goto (tgt := 5) hx hb dJ7_fill_53178_17 (by decide) ?_
                                                                                              refine lv_iload_n hx hb dJ7_fill_53178_5 rfl (lv_at hl 0 rfl) ?_
                                                                                              refine lv_iload_n hx hb dJ7_fill_53178_6 rfl (lv_at hl 1 rfl) ?_
                                                                                              refine lv_icmp_ge (tgt := 20) hx hb dJ7_fill_53178_7 (by decide) (fun c_93 => ?_) (fun c_93 => ?_)
                                                                                              · skip
                                                                                                exact absurd c_93 (by decide)
                                                                                              · skip
                                                                                                refine lv_aload_n hx hb dJ7_fill_53178_10 rfl (lv_at hl 2 rfl) ?_
                                                                                                refine lv_iload_n hx hb dJ7_fill_53178_11 rfl (lv_at hl 0 rfl) ?_
                                                                                                refine lv_iload_n hx hb dJ7_fill_53178_12 rfl (lv_at hl 3 rfl) ?_
                                                                                                refine va_iast (D := (dC, dI)) hx hb hK.1 hP hD hS 0 0 rfl rfl (show ¬ _ by decide) dJ7_fill_53178_13 (fun H locs hP hD hS => ?_)
                                                                                                generalize upd f_92 (46 : Int32).toNatClampNeg 0 = f_94 at hP hD
                                                                                                have hP : va_P (dC, dI) vwCl [(a1, .inl (k 0, 60, .inl f_94))] H := hP
                                                                                                have hD : va_D A [(a1, .inl (k 0, 60, .inl f_94))] := hD
                                                                                                refine lv_iinc (v := 47) (lv' := [(2, .int 47), (3, .int 60), (0, .ref a1), (1, .int 0)]) hx hb dJ7_fill_53178_14 hl (k := 0) rfl (by decide) (by decide) rfl (fun ls hl => ?_)
                                                                                                refine lv_goto (tgt := 5) hx hb dJ7_fill_53178_17 (by decide) ?_
                                                                                                refine lv_iload_n hx hb dJ7_fill_53178_5 rfl (lv_at hl 0 rfl) ?_
                                                                                                refine lv_iload_n hx hb dJ7_fill_53178_6 rfl (lv_at hl 1 rfl) ?_
                                                                                                refine lv_icmp_ge (tgt := 20) hx hb dJ7_fill_53178_7 (by decide) (fun c_95 => ?_) (fun c_95 => ?_)
                                                                                                · skip
                                                                                                  exact absurd c_95 (by decide)
                                                                                                · skip
                                                                                                  refine lv_aload_n hx hb dJ7_fill_53178_10 rfl (lv_at hl 2 rfl) ?_
                                                                                                  refine lv_iload_n hx hb dJ7_fill_53178_11 rfl (lv_at hl 0 rfl) ?_
                                                                                                  refine lv_iload_n hx hb dJ7_fill_53178_12 rfl (lv_at hl 3 rfl) ?_
                                                                                                  refine va_iast (D := (dC, dI)) hx hb hK.1 hP hD hS 0 0 rfl rfl (show ¬ _ by decide) dJ7_fill_53178_13 (fun H locs hP hD hS => ?_)
                                                                                                  generalize upd f_94 (47 : Int32).toNatClampNeg 0 = f_96 at hP hD
                                                                                                  have hP : va_P (dC, dI) vwCl [(a1, .inl (k 0, 60, .inl f_96))] H := hP
                                                                                                  have hD : va_D A [(a1, .inl (k 0, 60, .inl f_96))] := hD
                                                                                                  refine lv_iinc (v := 48) (lv' := [(2, .int 48), (3, .int 60), (0, .ref a1), (1, .int 0)]) hx hb dJ7_fill_53178_14 hl (k := 0) rfl (by decide) (by decide) rfl (fun ls hl => ?_)
                                                                                                  refine lv_goto (tgt := 5) hx hb dJ7_fill_53178_17 (by decide) ?_
                                                                                                  refine lv_iload_n hx hb dJ7_fill_53178_5 rfl (lv_at hl 0 rfl) ?_
                                                                                                  refine lv_iload_n hx hb dJ7_fill_53178_6 rfl (lv_at hl 1 rfl) ?_
                                                                                                  refine lv_icmp_ge (tgt := 20) hx hb dJ7_fill_53178_7 (by decide) (fun c_97 => ?_) (fun c_97 => ?_)
                                                                                                  · skip
                                                                                                    exact absurd c_97 (by decide)
                                                                                                  · skip
                                                                                                    refine lv_aload_n hx hb dJ7_fill_53178_10 rfl (lv_at hl 2 rfl) ?_
                                                                                                    refine lv_iload_n hx hb dJ7_fill_53178_11 rfl (lv_at hl 0 rfl) ?_
                                                                                                    refine lv_iload_n hx hb dJ7_fill_53178_12 rfl (lv_at hl 3 rfl) ?_
                                                                                                    refine va_iast (D := (dC, dI)) hx hb hK.1 hP hD hS 0 0 rfl rfl (show ¬ _ by decide) dJ7_fill_53178_13 (fun H locs hP hD hS => ?_)
                                                                                                    generalize upd f_96 (48 : Int32).toNatClampNeg 0 = f_98 at hP hD
                                                                                                    have hP : va_P (dC, dI) vwCl [(a1, .inl (k 0, 60, .inl f_98))] H := hP
                                                                                                    have hD : va_D A [(a1, .inl (k 0, 60, .inl f_98))] := hD
                                                                                                    refine lv_iinc (v := 49) (lv' := [(2, .int 49), (3, .int 60), (0, .ref a1), (1, .int 0)]) hx hb dJ7_fill_53178_14 hl (k := 0) rfl (by decide) (by decide) rfl (fun ls hl => ?_)
                                                                                                    refine lv_goto (tgt := 5) hx hb dJ7_fill_53178_17 (by decide) ?_
                                                                                                    refine lv_iload_n hx hb dJ7_fill_53178_5 rfl (lv_at hl 0 rfl) ?_
                                                                                                    refine lv_iload_n hx hb dJ7_fill_53178_6 rfl (lv_at hl 1 rfl) ?_
                                                                                                    refine lv_icmp_ge (tgt := 20) hx hb dJ7_fill_53178_7 (by decide) (fun c_99 => ?_) (fun c_99 => ?_)
                                                                                                    · skip
                                                                                                      exact absurd c_99 (by decide)
                                                                                                    · skip
                                                                                                      refine lv_aload_n hx hb dJ7_fill_53178_10 rfl (lv_at hl 2 rfl) ?_
                                                                                                      refine lv_iload_n hx hb dJ7_fill_53178_11 rfl (lv_at hl 0 rfl) ?_
                                                                                                      refine lv_iload_n hx hb dJ7_fill_53178_12 rfl (lv_at hl 3 rfl) ?_
                                                                                                      refine va_iast (D := (dC, dI)) hx hb hK.1 hP hD hS 0 0 rfl rfl (show ¬ _ by decide) dJ7_fill_53178_13 (fun H locs hP hD hS => ?_)
                                                                                                      generalize upd f_98 (49 : Int32).toNatClampNeg 0 = f_100 at hP hD
                                                                                                      have hP : va_P (dC, dI) vwCl [(a1, .inl (k 0, 60, .inl f_100))] H := hP
                                                                                                      have hD : va_D A [(a1, .inl (k 0, 60, .inl f_100))] := hD
                                                                                                      refine lv_iinc (v := 50) (lv' := [(2, .int 50), (3, .int 60), (0, .ref a1), (1, .int 0)]) hx hb dJ7_fill_53178_14 hl (k := 0) rfl (by decide) (by decide) rfl (fun ls hl => ?_)
                                                                                                      refine lv_goto (tgt := 5) hx hb dJ7_fill_53178_17 (by decide) ?_
                                                                                                      refine lv_iload_n hx hb dJ7_fill_53178_5 rfl (lv_at hl 0 rfl) ?_
                                                                                                      refine lv_iload_n hx hb dJ7_fill_53178_6 rfl (lv_at hl 1 rfl) ?_
                                                                                                      refine lv_icmp_ge (tgt := 20) hx hb dJ7_fill_53178_7 (by decide) (fun c_101 => ?_) (fun c_101 => ?_)
                                                                                                      · skip
                                                                                                        exact absurd c_101 (by decide)
                                                                                                      · skip
                                                                                                        refine lv_aload_n hx hb dJ7_fill_53178_10 rfl (lv_at hl 2 rfl) ?_
                                                                                                        refine lv_iload_n hx hb dJ7_fill_53178_11 rfl (lv_at hl 0 rfl) ?_
                                                                                                        refine lv_iload_n hx hb dJ7_fill_53178_12 rfl (lv_at hl 3 rfl) ?_
                                                                                                        refine va_iast (D := (dC, dI)) hx hb hK.1 hP hD hS 0 0 rfl rfl (show ¬ _ by decide) dJ7_fill_53178_13 (fun H locs hP hD hS => ?_)
                                                                                                        generalize upd f_100 (50 : Int32).toNatClampNeg 0 = f_102 at hP hD
                                                                                                        have hP : va_P (dC, dI) vwCl [(a1, .inl (k 0, 60, .inl f_102))] H := hP
                                                                                                        have hD : va_D A [(a1, .inl (k 0, 60, .inl f_102))] := hD
                                                                                                        refine lv_iinc (v := 51) (lv' := [(2, .int 51), (3, .int 60), (0, .ref a1), (1, .int 0)]) hx hb dJ7_fill_53178_14 hl (k := 0) rfl (by decide) (by decide) rfl (fun ls hl => ?_)
                                                                                                        refine lv_goto (tgt := 5) hx hb dJ7_fill_53178_17 (by decide) ?_
                                                                                                        refine lv_iload_n hx hb dJ7_fill_53178_5 rfl (lv_at hl 0 rfl) ?_
                                                                                                        refine lv_iload_n hx hb dJ7_fill_53178_6 rfl (lv_at hl 1 rfl) ?_
                                                                                                        refine lv_icmp_ge (tgt := 20) hx hb dJ7_fill_53178_7 (by decide) (fun c_103 => ?_) (fun c_103 => ?_)
                                                                                                        · skip
                                                                                                          exact absurd c_103 (by decide)
                                                                                                        · skip
                                                                                                          refine lv_aload_n hx hb dJ7_fill_53178_10 rfl (lv_at hl 2 rfl) ?_
                                                                                                          refine lv_iload_n hx hb dJ7_fill_53178_11 rfl (lv_at hl 0 rfl) ?_
                                                                                                          refine lv_iload_n hx hb dJ7_fill_53178_12 rfl (lv_at hl 3 rfl) ?_
                                                                                                          refine va_iast (D := (dC, dI)) hx hb hK.1 hP hD hS 0 0 rfl rfl (show ¬ _ by decide) dJ7_fill_53178_13 (fun H locs hP hD hS => ?_)
                                                                                                          generalize upd f_102 (51 : Int32).toNatClampNeg 0 = f_104 at hP hD
                                                                                                          have hP : va_P (dC, dI) vwCl [(a1, .inl (k 0, 60, .inl f_104))] H := hP
                                                                                                          have hD : va_D A [(a1, .inl (k 0, 60, .inl f_104))] := hD
                                                                                                          refine lv_iinc (v := 52) (lv' := [(2, .int 52), (3, .int 60), (0, .ref a1), (1, .int 0)]) hx hb dJ7_fill_53178_14 hl (k := 0) rfl (by decide) (by decide) rfl (fun ls hl => ?_)
                                                                                                          refine lv_goto (tgt := 5) hx hb dJ7_fill_53178_17 (by decide) ?_
                                                                                                          refine lv_iload_n hx hb dJ7_fill_53178_5 rfl (lv_at hl 0 rfl) ?_
                                                                                                          refine lv_iload_n hx hb dJ7_fill_53178_6 rfl (lv_at hl 1 rfl) ?_
                                                                                                          refine lv_icmp_ge (tgt := 20) hx hb dJ7_fill_53178_7 (by decide) (fun c_105 => ?_) (fun c_105 => ?_)
                                                                                                          · skip
                                                                                                            exact absurd c_105 (by decide)
                                                                                                          · skip
                                                                                                            refine lv_aload_n hx hb dJ7_fill_53178_10 rfl (lv_at hl 2 rfl) ?_
                                                                                                            refine lv_iload_n hx hb dJ7_fill_53178_11 rfl (lv_at hl 0 rfl) ?_
                                                                                                            refine lv_iload_n hx hb dJ7_fill_53178_12 rfl (lv_at hl 3 rfl) ?_
                                                                                                            refine va_iast (D := (dC, dI)) hx hb hK.1 hP hD hS 0 0 rfl rfl (show ¬ _ by decide) dJ7_fill_53178_13 (fun H locs hP hD hS => ?_)
                                                                                                            generalize upd f_104 (52 : Int32).toNatClampNeg 0 = f_106 at hP hD
                                                                                                            have hP : va_P (dC, dI) vwCl [(a1, .inl (k 0, 60, .inl f_106))] H := hP
                                                                                                            have hD : va_D A [(a1, .inl (k 0, 60, .inl f_106))] := hD
                                                                                                            refine lv_iinc (v := 53) (lv' := [(2, .int 53), (3, .int 60), (0, .ref a1), (1, .int 0)]) hx hb dJ7_fill_53178_14 hl (k := 0) rfl (by decide) (by decide) rfl (fun ls hl => ?_)
                                                                                                            refine lv_goto (tgt := 5) hx hb dJ7_fill_53178_17 (by decide) ?_
                                                                                                            refine lv_iload_n hx hb dJ7_fill_53178_5 rfl (lv_at hl 0 rfl) ?_
                                                                                                            refine lv_iload_n hx hb dJ7_fill_53178_6 rfl (lv_at hl 1 rfl) ?_
                                                                                                            refine lv_icmp_ge (tgt := 20) hx hb dJ7_fill_53178_7 (by decide) (fun c_107 => ?_) (fun c_107 => ?_)
                                                                                                            · skip
                                                                                                              exact absurd c_107 (by decide)
                                                                                                            · skip
                                                                                                              refine lv_aload_n hx hb dJ7_fill_53178_10 rfl (lv_at hl 2 rfl) ?_
                                                                                                              refine lv_iload_n hx hb dJ7_fill_53178_11 rfl (lv_at hl 0 rfl) ?_
                                                                                                              refine lv_iload_n hx hb dJ7_fill_53178_12 rfl (lv_at hl 3 rfl) ?_
                                                                                                              refine va_iast (D := (dC, dI)) hx hb hK.1 hP hD hS 0 0 rfl rfl (show ¬ _ by decide) dJ7_fill_53178_13 (fun H locs hP hD hS => ?_)
                                                                                                              generalize upd f_106 (53 : Int32).toNatClampNeg 0 = f_108 at hP hD
                                                                                                              have hP : va_P (dC, dI) vwCl [(a1, .inl (k 0, 60, .inl f_108))] H := hP
                                                                                                              have hD : va_D A [(a1, .inl (k 0, 60, .inl f_108))] := hD
                                                                                                              refine lv_iinc (v := 54) (lv' := [(2, .int 54), (3, .int 60), (0, .ref a1), (1, .int 0)]) hx hb dJ7_fill_53178_14 hl (k := 0) rfl (by decide) (by decide) rfl (fun ls hl => ?_)
                                                                                                              refine lv_goto (tgt := 5) hx hb dJ7_fill_53178_17 (by decide) ?_
                                                                                                              refine lv_iload_n hx hb dJ7_fill_53178_5 rfl (lv_at hl 0 rfl) ?_
                                                                                                              refine lv_iload_n hx hb dJ7_fill_53178_6 rfl (lv_at hl 1 rfl) ?_
                                                                                                              refine lv_icmp_ge (tgt := 20) hx hb dJ7_fill_53178_7 (by decide) (fun c_109 => ?_) (fun c_109 => ?_)
                                                                                                              · skip
                                                                                                                exact absurd c_109 (by decide)
                                                                                                              · skip
                                                                                                                refine lv_aload_n hx hb dJ7_fill_53178_10 rfl (lv_at hl 2 rfl) ?_
                                                                                                                refine lv_iload_n hx hb dJ7_fill_53178_11 rfl (lv_at hl 0 rfl) ?_
                                                                                                                refine lv_iload_n hx hb dJ7_fill_53178_12 rfl (lv_at hl 3 rfl) ?_
                                                                                                                refine va_iast (D := (dC, dI)) hx hb hK.1 hP hD hS 0 0 rfl rfl (show ¬ _ by decide) dJ7_fill_53178_13 (fun H locs hP hD hS => ?_)
                                                                                                                generalize upd f_108 (54 : Int32).toNatClampNeg 0 = f_110 at hP hD
                                                                                                                have hP : va_P (dC, dI) vwCl [(a1, .inl (k 0, 60, .inl f_110))] H := hP
                                                                                                                have hD : va_D A [(a1, .inl (k 0, 60, .inl f_110))] := hD
                                                                                                                refine lv_iinc (v := 55) (lv' := [(2, .int 55), (3, .int 60), (0, .ref a1), (1, .int 0)]) hx hb dJ7_fill_53178_14 hl (k := 0) rfl (by decide) (by decide) rfl (fun ls hl => ?_)
                                                                                                                refine lv_goto (tgt := 5) hx hb dJ7_fill_53178_17 (by decide) ?_
                                                                                                                refine lv_iload_n hx hb dJ7_fill_53178_5 rfl (lv_at hl 0 rfl) ?_
                                                                                                                refine lv_iload_n hx hb dJ7_fill_53178_6 rfl (lv_at hl 1 rfl) ?_
                                                                                                                refine lv_icmp_ge (tgt := 20) hx hb dJ7_fill_53178_7 (by decide) (fun c_111 => ?_) (fun c_111 => ?_)
                                                                                                                · skip
                                                                                                                  exact absurd c_111 (by decide)
                                                                                                                · skip
                                                                                                                  refine lv_aload_n hx hb dJ7_fill_53178_10 rfl (lv_at hl 2 rfl) ?_
                                                                                                                  refine lv_iload_n hx hb dJ7_fill_53178_11 rfl (lv_at hl 0 rfl) ?_
                                                                                                                  refine lv_iload_n hx hb dJ7_fill_53178_12 rfl (lv_at hl 3 rfl) ?_
                                                                                                                  refine va_iast (D := (dC, dI)) hx hb hK.1 hP hD hS 0 0 rfl rfl (show ¬ _ by decide) dJ7_fill_53178_13 (fun H locs hP hD hS => ?_)
                                                                                                                  generalize upd f_110 (55 : Int32).toNatClampNeg 0 = f_112 at hP hD
                                                                                                                  have hP : va_P (dC, dI) vwCl [(a1, .inl (k 0, 60, .inl f_112))] H := hP
                                                                                                                  have hD : va_D A [(a1, .inl (k 0, 60, .inl f_112))] := hD
                                                                                                                  refine lv_iinc (v := 56) (lv' := [(2, .int 56), (3, .int 60), (0, .ref a1), (1, .int 0)]) hx hb dJ7_fill_53178_14 hl (k := 0) rfl (by decide) (by decide) rfl (fun ls hl => ?_)
                                                                                                                  refine lv_goto (tgt := 5) hx hb dJ7_fill_53178_17 (by decide) ?_
                                                                                                                  refine lv_iload_n hx hb dJ7_fill_53178_5 rfl (lv_at hl 0 rfl) ?_
                                                                                                                  refine lv_iload_n hx hb dJ7_fill_53178_6 rfl (lv_at hl 1 rfl) ?_
                                                                                                                  refine lv_icmp_ge (tgt := 20) hx hb dJ7_fill_53178_7 (by decide) (fun c_113 => ?_) (fun c_113 => ?_)
                                                                                                                  · skip
                                                                                                                    exact absurd c_113 (by decide)
                                                                                                                  · skip
                                                                                                                    refine lv_aload_n hx hb dJ7_fill_53178_10 rfl (lv_at hl 2 rfl) ?_
                                                                                                                    refine lv_iload_n hx hb dJ7_fill_53178_11 rfl (lv_at hl 0 rfl) ?_
                                                                                                                    refine lv_iload_n hx hb dJ7_fill_53178_12 rfl (lv_at hl 3 rfl) ?_
                                                                                                                    refine va_iast (D := (dC, dI)) hx hb hK.1 hP hD hS 0 0 rfl rfl (show ¬ _ by decide) dJ7_fill_53178_13 (fun H locs hP hD hS => ?_)
                                                                                                                    generalize upd f_112 (56 : Int32).toNatClampNeg 0 = f_114 at hP hD
                                                                                                                    have hP : va_P (dC, dI) vwCl [(a1, .inl (k 0, 60, .inl f_114))] H := hP
                                                                                                                    have hD : va_D A [(a1, .inl (k 0, 60, .inl f_114))] := hD
                                                                                                                    refine lv_iinc (v := 57) (lv' := [(2, .int 57), (3, .int 60), (0, .ref a1), (1, .int 0)]) hx hb dJ7_fill_53178_14 hl (k := 0) rfl (by decide) (by decide) rfl (fun ls hl => ?_)
                                                                                                                    refine lv_goto (tgt := 5) hx hb dJ7_fill_53178_17 (by decide) ?_
                                                                                                                    refine lv_iload_n hx hb dJ7_fill_53178_5 rfl (lv_at hl 0 rfl) ?_
                                                                                                                    refine lv_iload_n hx hb dJ7_fill_53178_6 rfl (lv_at hl 1 rfl) ?_
                                                                                                                    refine lv_icmp_ge (tgt := 20) hx hb dJ7_fill_53178_7 (by decide) (fun c_115 => ?_) (fun c_115 => ?_)
                                                                                                                    · skip
                                                                                                                      exact absurd c_115 (by decide)
                                                                                                                    · skip
                                                                                                                      refine lv_aload_n hx hb dJ7_fill_53178_10 rfl (lv_at hl 2 rfl) ?_
                                                                                                                      refine lv_iload_n hx hb dJ7_fill_53178_11 rfl (lv_at hl 0 rfl) ?_
                                                                                                                      refine lv_iload_n hx hb dJ7_fill_53178_12 rfl (lv_at hl 3 rfl) ?_
                                                                                                                      refine va_iast (D := (dC, dI)) hx hb hK.1 hP hD hS 0 0 rfl rfl (show ¬ _ by decide) dJ7_fill_53178_13 (fun H locs hP hD hS => ?_)
                                                                                                                      generalize upd f_114 (57 : Int32).toNatClampNeg 0 = f_116 at hP hD
                                                                                                                      have hP : va_P (dC, dI) vwCl [(a1, .inl (k 0, 60, .inl f_116))] H := hP
                                                                                                                      have hD : va_D A [(a1, .inl (k 0, 60, .inl f_116))] := hD
                                                                                                                      refine lv_iinc (v := 58) (lv' := [(2, .int 58), (3, .int 60), (0, .ref a1), (1, .int 0)]) hx hb dJ7_fill_53178_14 hl (k := 0) rfl (by decide) (by decide) rfl (fun ls hl => ?_)
                                                                                                                      refine lv_goto (tgt := 5) hx hb dJ7_fill_53178_17 (by decide) ?_
                                                                                                                      refine lv_iload_n hx hb dJ7_fill_53178_5 rfl (lv_at hl 0 rfl) ?_
                                                                                                                      refine lv_iload_n hx hb dJ7_fill_53178_6 rfl (lv_at hl 1 rfl) ?_
                                                                                                                      refine lv_icmp_ge (tgt := 20) hx hb dJ7_fill_53178_7 (by decide) (fun c_117 => ?_) (fun c_117 => ?_)
                                                                                                                      · skip
                                                                                                                        exact absurd c_117 (by decide)
                                                                                                                      · skip
                                                                                                                        refine lv_aload_n hx hb dJ7_fill_53178_10 rfl (lv_at hl 2 rfl) ?_
                                                                                                                        refine lv_iload_n hx hb dJ7_fill_53178_11 rfl (lv_at hl 0 rfl) ?_
                                                                                                                        refine lv_iload_n hx hb dJ7_fill_53178_12 rfl (lv_at hl 3 rfl) ?_
                                                                                                                        refine va_iast (D := (dC, dI)) hx hb hK.1 hP hD hS 0 0 rfl rfl (show ¬ _ by decide) dJ7_fill_53178_13 (fun H locs hP hD hS => ?_)
                                                                                                                        generalize upd f_116 (58 : Int32).toNatClampNeg 0 = f_118 at hP hD
                                                                                                                        have hP : va_P (dC, dI) vwCl [(a1, .inl (k 0, 60, .inl f_118))] H := hP
                                                                                                                        have hD : va_D A [(a1, .inl (k 0, 60, .inl f_118))] := hD
                                                                                                                        refine lv_iinc (v := 59) (lv' := [(2, .int 59), (3, .int 60), (0, .ref a1), (1, .int 0)]) hx hb dJ7_fill_53178_14 hl (k := 0) rfl (by decide) (by decide) rfl (fun ls hl => ?_)
                                                                                                                        refine lv_goto (tgt := 5) hx hb dJ7_fill_53178_17 (by decide) ?_
                                                                                                                        refine lv_iload_n hx hb dJ7_fill_53178_5 rfl (lv_at hl 0 rfl) ?_
                                                                                                                        refine lv_iload_n hx hb dJ7_fill_53178_6 rfl (lv_at hl 1 rfl) ?_
                                                                                                                        refine lv_icmp_ge (tgt := 20) hx hb dJ7_fill_53178_7 (by decide) (fun c_119 => ?_) (fun c_119 => ?_)
                                                                                                                        · skip
                                                                                                                          exact absurd c_119 (by decide)
                                                                                                                        · skip
                                                                                                                          refine lv_aload_n hx hb dJ7_fill_53178_10 rfl (lv_at hl 2 rfl) ?_
                                                                                                                          refine lv_iload_n hx hb dJ7_fill_53178_11 rfl (lv_at hl 0 rfl) ?_
                                                                                                                          refine lv_iload_n hx hb dJ7_fill_53178_12 rfl (lv_at hl 3 rfl) ?_
                                                                                                                          refine va_iast (D := (dC, dI)) hx hb hK.1 hP hD hS 0 0 rfl rfl (show ¬ _ by decide) dJ7_fill_53178_13 (fun H locs hP hD hS => ?_)
                                                                                                                          generalize upd f_118 (59 : Int32).toNatClampNeg 0 = f_120 at hP hD
                                                                                                                          have hP : va_P (dC, dI) vwCl [(a1, .inl (k 0, 60, .inl f_120))] H := hP
                                                                                                                          have hD : va_D A [(a1, .inl (k 0, 60, .inl f_120))] := hD
                                                                                                                          refine lv_iinc (v := 60) (lv' := [(2, .int 60), (3, .int 60), (0, .ref a1), (1, .int 0)]) hx hb dJ7_fill_53178_14 hl (k := 0) rfl (by decide) (by decide) rfl (fun ls hl => ?_)
                                                                                                                          refine lv_goto (tgt := 5) hx hb dJ7_fill_53178_17 (by decide) ?_
                                                                                                                          refine lv_iload_n hx hb dJ7_fill_53178_5 rfl (lv_at hl 0 rfl) ?_
                                                                                                                          refine lv_iload_n hx hb dJ7_fill_53178_6 rfl (lv_at hl 1 rfl) ?_
                                                                                                                          refine lv_icmp_ge (tgt := 20) hx hb dJ7_fill_53178_7 (by decide) (fun c_121 => ?_) (fun c_121 => ?_)
                                                                                                                          · skip
                                                                                                                            exact W.vret hx hb hr (fun t ht hW => ⟨⟨(f_120), rfl, trivial, ⟨by rw [ht]; exact hP, hD⟩⟩, hS.F ht⟩) hS.2.2 dJ7_fill_53178_20
                                                                                                                          · skip
                                                                                                                            exact absurd (by decide) c_121
set_option maxHeartbeats 4000000 in
set_option maxRecDepth 100000 in
theorem c_X1_letterOf_m1 (l : Launch) (dC : Nat → ClassId) (dI : Nat → Nat → Nat) (k : Nat → ClassId) (T : List (ClassId × FieldType))  (sz : Nat)  : Met l yX1_letterOf (wz yX1_letterOf cX1_letterOf 1 (some .int)) ({ frames := 0, cells := 0, slots := 0, locals := 0 }) (va_Pc [.int (-1)] (zPre dC dI k T [] sz)) (va_Qi (fun (r : Int32) (u : Unit) => r = (-1)) (fun u t => zPost dC dI (va_A [] sz) [] t) (va_A [] sz)) 0 0 (va_A [] sz) := by
  refine Met.ofW (cc := cX1_letterOf) (maxL := 1) (ret := (some .int)) (by decide) rfl ?_
  intro p e s m args below meth c s₁ B hml hv
  obtain ⟨rfl, hsz, hP, hK, hD0⟩ := hv
  have hx := B.exec
  have hb := B.bytes
  have hr := B.returns
  have hts : ∀ w ∈ zw, w.before _ s = true := fun w h => atoms_spec (ws := (wz yX1_letterOf cX1_letterOf 1 (some .int))) B.pre w (List.mem_cons_of_mem _ h)
  have hown : s.vm.findClass RX1 = some m.cls := findClass_of_methodNamed B.named
  have hlocks := B.notSynchronized
  subst hsz
  have hD := hD0.self (sz := s.heap.size)
  generalize hAe : va_A [] s.heap.size = A at hD ⊢
  have hA : ∀ q : Nat, s.heap.size ≤ q → A q := fun q h => by rw [← hAe]; exact Or.inr h
  have hl := lv_entry ([.int (-1)]) (n := 1) (Nat.le_of_ble_eq_true rfl)
  rw [lg_entry_eq]
  generalize (lg_sl ([.int (-1)]) ++ List.replicate (1 - (lg_sl ([.int (-1)])).length) Slot.unset).toArray = ls at hl ⊢
  have hl : lv_has ls 1 [(0, .int (-1))] := hl
  refine z_start (w := []) hP hD (fun H locs hP hD hS => ?_)
  refine lv_iload_n hx hb dX1_letterOf_0 rfl (lv_at hl 0 rfl) ?_
  refine lv_tableOut (tgt := 74) hx hb dX1_letterOf_1 (by decide) (by decide) ?_
  refine lv_iconst (v := (-1)) hx hb dX1_letterOf_74 (by decide) ?_
  exact W.iret (v := (-1)) hx hb hr (fun t ht hW => ⟨⟨(-1), (), rfl, (by first | assumption | with_reducible rfl | contradiction | exact (if_pos (by repeat' (first | assumption | decide | constructor))).symm | exact (if_neg (fun hh => absurd hh (by assumption))).symm | exact (if_neg (fun hh => absurd hh.1 (by assumption))).symm | exact (if_neg (fun hh => absurd hh.2 (by assumption))).symm | exact (if_neg (fun hh => absurd hh.1.1 (by assumption))).symm | exact (if_neg (fun hh => absurd hh.1.2 (by assumption))).symm | exact (if_neg (fun hh => absurd hh.2.1 (by assumption))).symm | exact (if_neg (fun hh => absurd hh.2.2 (by assumption))).symm | exact (if_neg (fun hh => absurd hh.2.2.1 (by assumption))).symm | exact (if_neg (fun hh => absurd hh.2.2.2 (by assumption))).symm | exact (if_neg (fun hh => absurd hh.2.2.2.1 (by assumption))).symm | exact (if_neg (fun hh => absurd hh.2.2.2.2 (by assumption))).symm | decide | (exfalso; simp only [zi_le, zi_lt, zi_eq, zi_n0, zi_n1, zi_n2, zi_n3, zi_n4, zi_n23, zi_n24, zi_n100, zi_n399, zi_n60, zi_n255, zi_n99, zi_nm1, zi_n30] at *; omega) | (simp_all; done)), ⟨by rw [ht]; exact hP, hD⟩⟩, hS.F ht⟩) hS.2.2 dX1_letterOf_75
set_option maxHeartbeats 4000000 in
set_option maxRecDepth 100000 in
theorem c_X1_letterOf (l : Launch) (dC : Nat → ClassId) (dI : Nat → Nat → Nat) (k : Nat → ClassId) (T : List (ClassId × FieldType)) (v : Int32) (sz : Nat)  : Met l yX1_letterOf (wz yX1_letterOf cX1_letterOf 1 (some .int)) ({ frames := 0, cells := 0, slots := 0, locals := 0 }) (va_Pc [.int v] (zPre dC dI k T [] sz)) (va_Qi (fun (r : Int32) (u : Unit) => (r = (-1)) ∨ (r = 0) ∨ (r = 1) ∨ (r = 2) ∨ (r = 3) ∨ (r = 4)) (fun u t => zPost dC dI (va_A [] sz) [] t) (va_A [] sz)) 0 0 (va_A [] sz) := by
  refine Met.ofW (cc := cX1_letterOf) (maxL := 1) (ret := (some .int)) (by decide) rfl ?_
  intro p e s m args below meth c s₁ B hml hv
  obtain ⟨rfl, hsz, hP, hK, hD0⟩ := hv
  have hx := B.exec
  have hb := B.bytes
  have hr := B.returns
  have hts : ∀ w ∈ zw, w.before _ s = true := fun w h => atoms_spec (ws := (wz yX1_letterOf cX1_letterOf 1 (some .int))) B.pre w (List.mem_cons_of_mem _ h)
  have hown : s.vm.findClass RX1 = some m.cls := findClass_of_methodNamed B.named
  have hlocks := B.notSynchronized
  subst hsz
  have hD := hD0.self (sz := s.heap.size)
  generalize hAe : va_A [] s.heap.size = A at hD ⊢
  have hA : ∀ q : Nat, s.heap.size ≤ q → A q := fun q h => by rw [← hAe]; exact Or.inr h
  have hl := lv_entry ([.int v]) (n := 1) (Nat.le_of_ble_eq_true rfl)
  rw [lg_entry_eq]
  generalize (lg_sl ([.int v]) ++ List.replicate (1 - (lg_sl ([.int v])).length) Slot.unset).toArray = ls at hl ⊢
  have hl : lv_has ls 1 [(0, .int v)] := hl
  refine z_start (w := []) hP hD (fun H locs hP hD hS => ?_)
  refine lv_iload_n hx hb dX1_letterOf_0 rfl (lv_at hl 0 rfl) ?_
  rcases Decidable.em (v.toInt < 110 ∨ 121 < v.toInt) with sw_1 | sw_1
  · skip
    refine lv_tableOut (tgt := 74) hx hb dX1_letterOf_1 sw_1 (by decide) ?_
    refine lv_iconst (v := (-1)) hx hb dX1_letterOf_74 (by decide) ?_
    exact W.iret (v := (-1)) hx hb hr (fun t ht hW => ⟨⟨(-1), (), rfl, Or.inl (by first | assumption | with_reducible rfl | contradiction | exact (if_pos (by repeat' (first | assumption | decide | constructor))).symm | exact (if_neg (fun hh => absurd hh (by assumption))).symm | exact (if_neg (fun hh => absurd hh.1 (by assumption))).symm | exact (if_neg (fun hh => absurd hh.2 (by assumption))).symm | exact (if_neg (fun hh => absurd hh.1.1 (by assumption))).symm | exact (if_neg (fun hh => absurd hh.1.2 (by assumption))).symm | exact (if_neg (fun hh => absurd hh.2.1 (by assumption))).symm | exact (if_neg (fun hh => absurd hh.2.2 (by assumption))).symm | exact (if_neg (fun hh => absurd hh.2.2.1 (by assumption))).symm | exact (if_neg (fun hh => absurd hh.2.2.2 (by assumption))).symm | exact (if_neg (fun hh => absurd hh.2.2.2.1 (by assumption))).symm | exact (if_neg (fun hh => absurd hh.2.2.2.2 (by assumption))).symm | decide | (exfalso; simp only [zi_le, zi_lt, zi_eq, zi_n0, zi_n1, zi_n2, zi_n3, zi_n4, zi_n23, zi_n24, zi_n100, zi_n399, zi_n60, zi_n255, zi_n99, zi_nm1, zi_n30] at *; omega) | (simp_all; done)), ⟨by rw [ht]; exact hP, hD⟩⟩, hS.F ht⟩) hS.2.2 dX1_letterOf_75
  · skip
    have sw_2 : v = 110 ∨ v = 111 ∨ v = 112 ∨ v = 113 ∨ v = 114 ∨ v = 115 ∨ v = 116 ∨ v = 117 ∨ v = 118 ∨ v = 119 ∨ v = 120 ∨ v = 121 := by simp only [zi_eq, (by decide : (110 : Int32).toInt = 110), (by decide : (111 : Int32).toInt = 111), (by decide : (112 : Int32).toInt = 112), (by decide : (113 : Int32).toInt = 113), (by decide : (114 : Int32).toInt = 114), (by decide : (115 : Int32).toInt = 115), (by decide : (116 : Int32).toInt = 116), (by decide : (117 : Int32).toInt = 117), (by decide : (118 : Int32).toInt = 118), (by decide : (119 : Int32).toInt = 119), (by decide : (120 : Int32).toInt = 120), (by decide : (121 : Int32).toInt = 121)]; omega
    clear sw_1
    rcases sw_2 with rfl | rfl | rfl | rfl | rfl | rfl | rfl | rfl | rfl | rfl | rfl | rfl
    · skip
      refine lv_tableIn (off := 69) (tgt := 70) hx hb dX1_letterOf_1 (by decide) (by decide) (by decide) (by decide) ?_
      refine lv_iconst (v := 3) hx hb dX1_letterOf_70 (by decide) ?_
      exact W.iret (v := 3) hx hb hr (fun t ht hW => ⟨⟨3, (), rfl, Or.inr (Or.inr (Or.inr (Or.inr (Or.inl (by first | assumption | with_reducible rfl | contradiction | exact (if_pos (by repeat' (first | assumption | decide | constructor))).symm | exact (if_neg (fun hh => absurd hh (by assumption))).symm | exact (if_neg (fun hh => absurd hh.1 (by assumption))).symm | exact (if_neg (fun hh => absurd hh.2 (by assumption))).symm | exact (if_neg (fun hh => absurd hh.1.1 (by assumption))).symm | exact (if_neg (fun hh => absurd hh.1.2 (by assumption))).symm | exact (if_neg (fun hh => absurd hh.2.1 (by assumption))).symm | exact (if_neg (fun hh => absurd hh.2.2 (by assumption))).symm | exact (if_neg (fun hh => absurd hh.2.2.1 (by assumption))).symm | exact (if_neg (fun hh => absurd hh.2.2.2 (by assumption))).symm | exact (if_neg (fun hh => absurd hh.2.2.2.1 (by assumption))).symm | exact (if_neg (fun hh => absurd hh.2.2.2.2 (by assumption))).symm | decide | (exfalso; simp only [zi_le, zi_lt, zi_eq, zi_n0, zi_n1, zi_n2, zi_n3, zi_n4, zi_n23, zi_n24, zi_n100, zi_n399, zi_n60, zi_n255, zi_n99, zi_nm1, zi_n30] at *; omega) | (simp_all; done)))))), ⟨by rw [ht]; exact hP, hD⟩⟩, hS.F ht⟩) hS.2.2 dX1_letterOf_71
    · skip
      refine lv_tableIn (off := 65) (tgt := 66) hx hb dX1_letterOf_1 (by decide) (by decide) (by decide) (by decide) ?_
      refine lv_iconst (v := 1) hx hb dX1_letterOf_66 (by decide) ?_
      exact W.iret (v := 1) hx hb hr (fun t ht hW => ⟨⟨1, (), rfl, Or.inr (Or.inr (Or.inl (by first | assumption | with_reducible rfl | contradiction | exact (if_pos (by repeat' (first | assumption | decide | constructor))).symm | exact (if_neg (fun hh => absurd hh (by assumption))).symm | exact (if_neg (fun hh => absurd hh.1 (by assumption))).symm | exact (if_neg (fun hh => absurd hh.2 (by assumption))).symm | exact (if_neg (fun hh => absurd hh.1.1 (by assumption))).symm | exact (if_neg (fun hh => absurd hh.1.2 (by assumption))).symm | exact (if_neg (fun hh => absurd hh.2.1 (by assumption))).symm | exact (if_neg (fun hh => absurd hh.2.2 (by assumption))).symm | exact (if_neg (fun hh => absurd hh.2.2.1 (by assumption))).symm | exact (if_neg (fun hh => absurd hh.2.2.2 (by assumption))).symm | exact (if_neg (fun hh => absurd hh.2.2.2.1 (by assumption))).symm | exact (if_neg (fun hh => absurd hh.2.2.2.2 (by assumption))).symm | decide | (exfalso; simp only [zi_le, zi_lt, zi_eq, zi_n0, zi_n1, zi_n2, zi_n3, zi_n4, zi_n23, zi_n24, zi_n100, zi_n399, zi_n60, zi_n255, zi_n99, zi_nm1, zi_n30] at *; omega) | (simp_all; done)))), ⟨by rw [ht]; exact hP, hD⟩⟩, hS.F ht⟩) hS.2.2 dX1_letterOf_67
    · skip
      refine lv_tableIn (off := 73) (tgt := 74) hx hb dX1_letterOf_1 (by decide) (by decide) (by decide) (by decide) ?_
      refine lv_iconst (v := (-1)) hx hb dX1_letterOf_74 (by decide) ?_
      exact W.iret (v := (-1)) hx hb hr (fun t ht hW => ⟨⟨(-1), (), rfl, Or.inl (by first | assumption | with_reducible rfl | contradiction | exact (if_pos (by repeat' (first | assumption | decide | constructor))).symm | exact (if_neg (fun hh => absurd hh (by assumption))).symm | exact (if_neg (fun hh => absurd hh.1 (by assumption))).symm | exact (if_neg (fun hh => absurd hh.2 (by assumption))).symm | exact (if_neg (fun hh => absurd hh.1.1 (by assumption))).symm | exact (if_neg (fun hh => absurd hh.1.2 (by assumption))).symm | exact (if_neg (fun hh => absurd hh.2.1 (by assumption))).symm | exact (if_neg (fun hh => absurd hh.2.2 (by assumption))).symm | exact (if_neg (fun hh => absurd hh.2.2.1 (by assumption))).symm | exact (if_neg (fun hh => absurd hh.2.2.2 (by assumption))).symm | exact (if_neg (fun hh => absurd hh.2.2.2.1 (by assumption))).symm | exact (if_neg (fun hh => absurd hh.2.2.2.2 (by assumption))).symm | decide | (exfalso; simp only [zi_le, zi_lt, zi_eq, zi_n0, zi_n1, zi_n2, zi_n3, zi_n4, zi_n23, zi_n24, zi_n100, zi_n399, zi_n60, zi_n255, zi_n99, zi_nm1, zi_n30] at *; omega) | (simp_all; done)), ⟨by rw [ht]; exact hP, hD⟩⟩, hS.F ht⟩) hS.2.2 dX1_letterOf_75
    · skip
      refine lv_tableIn (off := 73) (tgt := 74) hx hb dX1_letterOf_1 (by decide) (by decide) (by decide) (by decide) ?_
      refine lv_iconst (v := (-1)) hx hb dX1_letterOf_74 (by decide) ?_
      exact W.iret (v := (-1)) hx hb hr (fun t ht hW => ⟨⟨(-1), (), rfl, Or.inl (by first | assumption | with_reducible rfl | contradiction | exact (if_pos (by repeat' (first | assumption | decide | constructor))).symm | exact (if_neg (fun hh => absurd hh (by assumption))).symm | exact (if_neg (fun hh => absurd hh.1 (by assumption))).symm | exact (if_neg (fun hh => absurd hh.2 (by assumption))).symm | exact (if_neg (fun hh => absurd hh.1.1 (by assumption))).symm | exact (if_neg (fun hh => absurd hh.1.2 (by assumption))).symm | exact (if_neg (fun hh => absurd hh.2.1 (by assumption))).symm | exact (if_neg (fun hh => absurd hh.2.2 (by assumption))).symm | exact (if_neg (fun hh => absurd hh.2.2.1 (by assumption))).symm | exact (if_neg (fun hh => absurd hh.2.2.2 (by assumption))).symm | exact (if_neg (fun hh => absurd hh.2.2.2.1 (by assumption))).symm | exact (if_neg (fun hh => absurd hh.2.2.2.2 (by assumption))).symm | decide | (exfalso; simp only [zi_le, zi_lt, zi_eq, zi_n0, zi_n1, zi_n2, zi_n3, zi_n4, zi_n23, zi_n24, zi_n100, zi_n399, zi_n60, zi_n255, zi_n99, zi_nm1, zi_n30] at *; omega) | (simp_all; done)), ⟨by rw [ht]; exact hP, hD⟩⟩, hS.F ht⟩) hS.2.2 dX1_letterOf_75
    · skip
      refine lv_tableIn (off := 73) (tgt := 74) hx hb dX1_letterOf_1 (by decide) (by decide) (by decide) (by decide) ?_
      refine lv_iconst (v := (-1)) hx hb dX1_letterOf_74 (by decide) ?_
      exact W.iret (v := (-1)) hx hb hr (fun t ht hW => ⟨⟨(-1), (), rfl, Or.inl (by first | assumption | with_reducible rfl | contradiction | exact (if_pos (by repeat' (first | assumption | decide | constructor))).symm | exact (if_neg (fun hh => absurd hh (by assumption))).symm | exact (if_neg (fun hh => absurd hh.1 (by assumption))).symm | exact (if_neg (fun hh => absurd hh.2 (by assumption))).symm | exact (if_neg (fun hh => absurd hh.1.1 (by assumption))).symm | exact (if_neg (fun hh => absurd hh.1.2 (by assumption))).symm | exact (if_neg (fun hh => absurd hh.2.1 (by assumption))).symm | exact (if_neg (fun hh => absurd hh.2.2 (by assumption))).symm | exact (if_neg (fun hh => absurd hh.2.2.1 (by assumption))).symm | exact (if_neg (fun hh => absurd hh.2.2.2 (by assumption))).symm | exact (if_neg (fun hh => absurd hh.2.2.2.1 (by assumption))).symm | exact (if_neg (fun hh => absurd hh.2.2.2.2 (by assumption))).symm | decide | (exfalso; simp only [zi_le, zi_lt, zi_eq, zi_n0, zi_n1, zi_n2, zi_n3, zi_n4, zi_n23, zi_n24, zi_n100, zi_n399, zi_n60, zi_n255, zi_n99, zi_nm1, zi_n30] at *; omega) | (simp_all; done)), ⟨by rw [ht]; exact hP, hD⟩⟩, hS.F ht⟩) hS.2.2 dX1_letterOf_75
    · skip
      refine lv_tableIn (off := 73) (tgt := 74) hx hb dX1_letterOf_1 (by decide) (by decide) (by decide) (by decide) ?_
      refine lv_iconst (v := (-1)) hx hb dX1_letterOf_74 (by decide) ?_
      exact W.iret (v := (-1)) hx hb hr (fun t ht hW => ⟨⟨(-1), (), rfl, Or.inl (by first | assumption | with_reducible rfl | contradiction | exact (if_pos (by repeat' (first | assumption | decide | constructor))).symm | exact (if_neg (fun hh => absurd hh (by assumption))).symm | exact (if_neg (fun hh => absurd hh.1 (by assumption))).symm | exact (if_neg (fun hh => absurd hh.2 (by assumption))).symm | exact (if_neg (fun hh => absurd hh.1.1 (by assumption))).symm | exact (if_neg (fun hh => absurd hh.1.2 (by assumption))).symm | exact (if_neg (fun hh => absurd hh.2.1 (by assumption))).symm | exact (if_neg (fun hh => absurd hh.2.2 (by assumption))).symm | exact (if_neg (fun hh => absurd hh.2.2.1 (by assumption))).symm | exact (if_neg (fun hh => absurd hh.2.2.2 (by assumption))).symm | exact (if_neg (fun hh => absurd hh.2.2.2.1 (by assumption))).symm | exact (if_neg (fun hh => absurd hh.2.2.2.2 (by assumption))).symm | decide | (exfalso; simp only [zi_le, zi_lt, zi_eq, zi_n0, zi_n1, zi_n2, zi_n3, zi_n4, zi_n23, zi_n24, zi_n100, zi_n399, zi_n60, zi_n255, zi_n99, zi_nm1, zi_n30] at *; omega) | (simp_all; done)), ⟨by rw [ht]; exact hP, hD⟩⟩, hS.F ht⟩) hS.2.2 dX1_letterOf_75
    · skip
      refine lv_tableIn (off := 63) (tgt := 64) hx hb dX1_letterOf_1 (by decide) (by decide) (by decide) (by decide) ?_
      refine lv_iconst (v := 0) hx hb dX1_letterOf_64 (by decide) ?_
      exact W.iret (v := 0) hx hb hr (fun t ht hW => ⟨⟨0, (), rfl, Or.inr (Or.inl (by first | assumption | with_reducible rfl | contradiction | exact (if_pos (by repeat' (first | assumption | decide | constructor))).symm | exact (if_neg (fun hh => absurd hh (by assumption))).symm | exact (if_neg (fun hh => absurd hh.1 (by assumption))).symm | exact (if_neg (fun hh => absurd hh.2 (by assumption))).symm | exact (if_neg (fun hh => absurd hh.1.1 (by assumption))).symm | exact (if_neg (fun hh => absurd hh.1.2 (by assumption))).symm | exact (if_neg (fun hh => absurd hh.2.1 (by assumption))).symm | exact (if_neg (fun hh => absurd hh.2.2 (by assumption))).symm | exact (if_neg (fun hh => absurd hh.2.2.1 (by assumption))).symm | exact (if_neg (fun hh => absurd hh.2.2.2 (by assumption))).symm | exact (if_neg (fun hh => absurd hh.2.2.2.1 (by assumption))).symm | exact (if_neg (fun hh => absurd hh.2.2.2.2 (by assumption))).symm | decide | (exfalso; simp only [zi_le, zi_lt, zi_eq, zi_n0, zi_n1, zi_n2, zi_n3, zi_n4, zi_n23, zi_n24, zi_n100, zi_n399, zi_n60, zi_n255, zi_n99, zi_nm1, zi_n30] at *; omega) | (simp_all; done))), ⟨by rw [ht]; exact hP, hD⟩⟩, hS.F ht⟩) hS.2.2 dX1_letterOf_65
    · skip
      refine lv_tableIn (off := 71) (tgt := 72) hx hb dX1_letterOf_1 (by decide) (by decide) (by decide) (by decide) ?_
      refine lv_iconst (v := 4) hx hb dX1_letterOf_72 (by decide) ?_
      exact W.iret (v := 4) hx hb hr (fun t ht hW => ⟨⟨4, (), rfl, Or.inr (Or.inr (Or.inr (Or.inr (Or.inr ((by first | assumption | with_reducible rfl | contradiction | exact (if_pos (by repeat' (first | assumption | decide | constructor))).symm | exact (if_neg (fun hh => absurd hh (by assumption))).symm | exact (if_neg (fun hh => absurd hh.1 (by assumption))).symm | exact (if_neg (fun hh => absurd hh.2 (by assumption))).symm | exact (if_neg (fun hh => absurd hh.1.1 (by assumption))).symm | exact (if_neg (fun hh => absurd hh.1.2 (by assumption))).symm | exact (if_neg (fun hh => absurd hh.2.1 (by assumption))).symm | exact (if_neg (fun hh => absurd hh.2.2 (by assumption))).symm | exact (if_neg (fun hh => absurd hh.2.2.1 (by assumption))).symm | exact (if_neg (fun hh => absurd hh.2.2.2 (by assumption))).symm | exact (if_neg (fun hh => absurd hh.2.2.2.1 (by assumption))).symm | exact (if_neg (fun hh => absurd hh.2.2.2.2 (by assumption))).symm | decide | (exfalso; simp only [zi_le, zi_lt, zi_eq, zi_n0, zi_n1, zi_n2, zi_n3, zi_n4, zi_n23, zi_n24, zi_n100, zi_n399, zi_n60, zi_n255, zi_n99, zi_nm1, zi_n30] at *; omega) | (simp_all; done))))))), ⟨by rw [ht]; exact hP, hD⟩⟩, hS.F ht⟩) hS.2.2 dX1_letterOf_73
    · skip
      refine lv_tableIn (off := 73) (tgt := 74) hx hb dX1_letterOf_1 (by decide) (by decide) (by decide) (by decide) ?_
      refine lv_iconst (v := (-1)) hx hb dX1_letterOf_74 (by decide) ?_
      exact W.iret (v := (-1)) hx hb hr (fun t ht hW => ⟨⟨(-1), (), rfl, Or.inl (by first | assumption | with_reducible rfl | contradiction | exact (if_pos (by repeat' (first | assumption | decide | constructor))).symm | exact (if_neg (fun hh => absurd hh (by assumption))).symm | exact (if_neg (fun hh => absurd hh.1 (by assumption))).symm | exact (if_neg (fun hh => absurd hh.2 (by assumption))).symm | exact (if_neg (fun hh => absurd hh.1.1 (by assumption))).symm | exact (if_neg (fun hh => absurd hh.1.2 (by assumption))).symm | exact (if_neg (fun hh => absurd hh.2.1 (by assumption))).symm | exact (if_neg (fun hh => absurd hh.2.2 (by assumption))).symm | exact (if_neg (fun hh => absurd hh.2.2.1 (by assumption))).symm | exact (if_neg (fun hh => absurd hh.2.2.2 (by assumption))).symm | exact (if_neg (fun hh => absurd hh.2.2.2.1 (by assumption))).symm | exact (if_neg (fun hh => absurd hh.2.2.2.2 (by assumption))).symm | decide | (exfalso; simp only [zi_le, zi_lt, zi_eq, zi_n0, zi_n1, zi_n2, zi_n3, zi_n4, zi_n23, zi_n24, zi_n100, zi_n399, zi_n60, zi_n255, zi_n99, zi_nm1, zi_n30] at *; omega) | (simp_all; done)), ⟨by rw [ht]; exact hP, hD⟩⟩, hS.F ht⟩) hS.2.2 dX1_letterOf_75
    · skip
      refine lv_tableIn (off := 73) (tgt := 74) hx hb dX1_letterOf_1 (by decide) (by decide) (by decide) (by decide) ?_
      refine lv_iconst (v := (-1)) hx hb dX1_letterOf_74 (by decide) ?_
      exact W.iret (v := (-1)) hx hb hr (fun t ht hW => ⟨⟨(-1), (), rfl, Or.inl (by first | assumption | with_reducible rfl | contradiction | exact (if_pos (by repeat' (first | assumption | decide | constructor))).symm | exact (if_neg (fun hh => absurd hh (by assumption))).symm | exact (if_neg (fun hh => absurd hh.1 (by assumption))).symm | exact (if_neg (fun hh => absurd hh.2 (by assumption))).symm | exact (if_neg (fun hh => absurd hh.1.1 (by assumption))).symm | exact (if_neg (fun hh => absurd hh.1.2 (by assumption))).symm | exact (if_neg (fun hh => absurd hh.2.1 (by assumption))).symm | exact (if_neg (fun hh => absurd hh.2.2 (by assumption))).symm | exact (if_neg (fun hh => absurd hh.2.2.1 (by assumption))).symm | exact (if_neg (fun hh => absurd hh.2.2.2 (by assumption))).symm | exact (if_neg (fun hh => absurd hh.2.2.2.1 (by assumption))).symm | exact (if_neg (fun hh => absurd hh.2.2.2.2 (by assumption))).symm | decide | (exfalso; simp only [zi_le, zi_lt, zi_eq, zi_n0, zi_n1, zi_n2, zi_n3, zi_n4, zi_n23, zi_n24, zi_n100, zi_n399, zi_n60, zi_n255, zi_n99, zi_nm1, zi_n30] at *; omega) | (simp_all; done)), ⟨by rw [ht]; exact hP, hD⟩⟩, hS.F ht⟩) hS.2.2 dX1_letterOf_75
    · skip
      refine lv_tableIn (off := 73) (tgt := 74) hx hb dX1_letterOf_1 (by decide) (by decide) (by decide) (by decide) ?_
      refine lv_iconst (v := (-1)) hx hb dX1_letterOf_74 (by decide) ?_
      exact W.iret (v := (-1)) hx hb hr (fun t ht hW => ⟨⟨(-1), (), rfl, Or.inl (by first | assumption | with_reducible rfl | contradiction | exact (if_pos (by repeat' (first | assumption | decide | constructor))).symm | exact (if_neg (fun hh => absurd hh (by assumption))).symm | exact (if_neg (fun hh => absurd hh.1 (by assumption))).symm | exact (if_neg (fun hh => absurd hh.2 (by assumption))).symm | exact (if_neg (fun hh => absurd hh.1.1 (by assumption))).symm | exact (if_neg (fun hh => absurd hh.1.2 (by assumption))).symm | exact (if_neg (fun hh => absurd hh.2.1 (by assumption))).symm | exact (if_neg (fun hh => absurd hh.2.2 (by assumption))).symm | exact (if_neg (fun hh => absurd hh.2.2.1 (by assumption))).symm | exact (if_neg (fun hh => absurd hh.2.2.2 (by assumption))).symm | exact (if_neg (fun hh => absurd hh.2.2.2.1 (by assumption))).symm | exact (if_neg (fun hh => absurd hh.2.2.2.2 (by assumption))).symm | decide | (exfalso; simp only [zi_le, zi_lt, zi_eq, zi_n0, zi_n1, zi_n2, zi_n3, zi_n4, zi_n23, zi_n24, zi_n100, zi_n399, zi_n60, zi_n255, zi_n99, zi_nm1, zi_n30] at *; omega) | (simp_all; done)), ⟨by rw [ht]; exact hP, hD⟩⟩, hS.F ht⟩) hS.2.2 dX1_letterOf_75
    · skip
      refine lv_tableIn (off := 67) (tgt := 68) hx hb dX1_letterOf_1 (by decide) (by decide) (by decide) (by decide) ?_
      refine lv_iconst (v := 2) hx hb dX1_letterOf_68 (by decide) ?_
      exact W.iret (v := 2) hx hb hr (fun t ht hW => ⟨⟨2, (), rfl, Or.inr (Or.inr (Or.inr (Or.inl (by first | assumption | with_reducible rfl | contradiction | exact (if_pos (by repeat' (first | assumption | decide | constructor))).symm | exact (if_neg (fun hh => absurd hh (by assumption))).symm | exact (if_neg (fun hh => absurd hh.1 (by assumption))).symm | exact (if_neg (fun hh => absurd hh.2 (by assumption))).symm | exact (if_neg (fun hh => absurd hh.1.1 (by assumption))).symm | exact (if_neg (fun hh => absurd hh.1.2 (by assumption))).symm | exact (if_neg (fun hh => absurd hh.2.1 (by assumption))).symm | exact (if_neg (fun hh => absurd hh.2.2 (by assumption))).symm | exact (if_neg (fun hh => absurd hh.2.2.1 (by assumption))).symm | exact (if_neg (fun hh => absurd hh.2.2.2 (by assumption))).symm | exact (if_neg (fun hh => absurd hh.2.2.2.1 (by assumption))).symm | exact (if_neg (fun hh => absurd hh.2.2.2.2 (by assumption))).symm | decide | (exfalso; simp only [zi_le, zi_lt, zi_eq, zi_n0, zi_n1, zi_n2, zi_n3, zi_n4, zi_n23, zi_n24, zi_n100, zi_n399, zi_n60, zi_n255, zi_n99, zi_nm1, zi_n30] at *; omega) | (simp_all; done))))), ⟨by rw [ht]; exact hP, hD⟩⟩, hS.F ht⟩) hS.2.2 dX1_letterOf_69
set_option maxHeartbeats 4000000 in
set_option maxRecDepth 100000 in
theorem c_X1_append (l : Launch) (dC : Nat → ClassId) (dI : Nat → Nat → Nat) (k : Nat → ClassId) (T : List (ClassId × FieldType)) (h0 : Nat) (a1 : Nat) (a2 : Nat) (tx : Nat → Int32) (sh : Nat → Int64) (cm : Int64) (ia : Int32) (ifa : Int32) (iyh : Int32) (iyn : Int32) (ilu : Int32) (b : Int32) (sz : Nat)  : Met l yX1_append (wz yX1_append cX1_append 2 (some .boolean)) ({ frames := 0, cells := 0, slots := 0, locals := 0 }) (va_Pc [.ref h0, .int b] (zPre dC dI k T (zDes k h0 a1 a2 tx sh cm ia 0 ifa iyh iyn ilu) sz)) (va_Qi (fun (r : Int32) (u : (Nat → Int32)) => r = 1) (fun u t => zPost dC dI (va_A (zDes k h0 a1 a2 tx sh cm ia 0 ifa iyh iyn ilu) sz) (zDes k h0 a1 a2 u sh cm ia 1 ifa iyh iyn ilu) t) (va_A (zDes k h0 a1 a2 tx sh cm ia 0 ifa iyh iyn ilu) sz)) 0 0 (va_A (zDes k h0 a1 a2 tx sh cm ia 0 ifa iyh iyn ilu) sz) := by
  refine Met.ofW (cc := cX1_append) (maxL := 2) (ret := (some .boolean)) (by decide) rfl ?_
  intro p e s m args below meth c s₁ B hml hv
  obtain ⟨rfl, hsz, hP, hK, hD0⟩ := hv
  have hx := B.exec
  have hb := B.bytes
  have hr := B.returns
  have hts : ∀ w ∈ zw, w.before _ s = true := fun w h => atoms_spec (ws := (wz yX1_append cX1_append 2 (some .boolean))) B.pre w (List.mem_cons_of_mem _ h)
  have hown : s.vm.findClass RX1 = some m.cls := findClass_of_methodNamed B.named
  have hlocks := B.notSynchronized
  subst hsz
  have hi1 := inw1
  have hD := hD0.self (sz := s.heap.size)
  generalize hAe : va_A (zDes k h0 a1 a2 tx sh cm ia 0 ifa iyh iyn ilu) s.heap.size = A at hD ⊢
  have hA : ∀ q : Nat, s.heap.size ≤ q → A q := fun q h => by rw [← hAe]; exact Or.inr h
  have hl := lv_entry ([.ref h0, .int b]) (n := 2) (Nat.le_of_ble_eq_true rfl)
  rw [lg_entry_eq]
  generalize (lg_sl ([.ref h0, .int b]) ++ List.replicate (2 - (lg_sl ([.ref h0, .int b])).length) Slot.unset).toArray = ls at hl ⊢
  have hl : lv_has ls 2 [(0, .ref h0), (1, .int b)] := hl
  refine z_start (w := (zDes k h0 a1 a2 tx sh cm ia 0 ifa iyh iyn ilu)) hP hD (fun H locs hP hD hS => ?_)
  refine lv_aload_n hx hb dX1_append_0 rfl (lv_at hl 0 rfl) ?_
  refine va_get (D := (dC, dI)) (ci := 1) (v := .int 0) (C := RX1) (T := TX1) (N := 9) hx hb hts hi1 hown hK.1 hP 0 rfl rfl 4 (by decide) (hts _ wmt1_122) (fun _ h9 => h9) rfl dX1_append_1 ?_
  refine lv_bipush (v := 60) hx hb dX1_append_4 (by decide) ?_
  refine lv_icmp_lt (tgt := 11) hx hb dX1_append_6 (by decide) (fun c_1 => ?_) (fun c_1 => ?_)
  · skip
    refine lv_aload_n hx hb dX1_append_11 rfl (lv_at hl 0 rfl) ?_
    refine va_get (D := (dC, dI)) (ci := 1) (v := .ref a1) (C := RX1) (T := TX1) (N := 9) hx hb hts hi1 hown hK.1 hP 0 rfl rfl 0 (by decide) (hts _ wmt1_118) (fun _ h9 => h9) rfl dX1_append_12 ?_
    refine lv_aload_n hx hb dX1_append_15 rfl (lv_at hl 0 rfl) ?_
    refine va_get (D := (dC, dI)) (ci := 1) (v := .int 0) (C := RX1) (T := TX1) (N := 9) hx hb hts hi1 hown hK.1 hP 0 rfl rfl 4 (by decide) (hts _ wmt1_122) (fun _ h9 => h9) rfl dX1_append_16 ?_
    refine lv_iload_n hx hb dX1_append_19 rfl (lv_at hl 1 rfl) ?_
    refine va_iast (D := (dC, dI)) hx hb hK.1 hP hD hS 1 0 rfl rfl (show ¬ _ by decide) dX1_append_20 (fun H locs hP hD hS => ?_)
    have hP : va_P (dC, dI) vwCl (zDes k h0 a1 a2 (upd tx 0 b) sh cm ia 0 ifa iyh iyn ilu) H := hP
    have hD : va_D A (zDes k h0 a1 a2 (upd tx 0 b) sh cm ia 0 ifa iyh iyn ilu) := hD
    refine lv_aload_n hx hb dX1_append_21 rfl (lv_at hl 0 rfl) ?_
    refine lv_dup hx hb dX1_append_22 rfl ?_
    refine va_get (D := (dC, dI)) (ci := 1) (v := .int 0) (C := RX1) (T := TX1) (N := 9) hx hb hts hi1 hown hK.1 hP 0 rfl rfl 4 (by decide) (hts _ wmt1_122) (fun _ h9 => h9) rfl dX1_append_23 ?_
    refine lv_iconst (v := 1) hx hb dX1_append_26 (by decide) ?_
    refine lv_iadd hx hb dX1_append_27 ?_
    refine z_top (v2 := .int 1) (congrArg Value.int (by decide)) ?_
    refine va_put (D := (dC, dI)) (ci := 1) (v := .int 1) (ty := .int) (C := RX1) (T := TX1) (N := 9) hx hb hts hi1 tyX1 tyX1_ok nmX1 hown hK.1 hP hD hS 0 rfl rfl 4 (by decide) (hts _ wmt1_122) (fun _ h9 => h9) rfl (by decide +kernel) rfl rfl (Nat.le_of_ble_eq_true rfl) dX1_append_28 (fun H locs hP hD hS => ?_)
    have hP : va_P (dC, dI) vwCl (zDes k h0 a1 a2 (upd tx 0 b) sh cm ia 1 ifa iyh iyn ilu) H := hP
    have hD : va_D A (zDes k h0 a1 a2 (upd tx 0 b) sh cm ia 1 ifa iyh iyn ilu) := hD
    refine lv_iconst (v := 1) hx hb dX1_append_31 (by decide) ?_
    exact W.zret (v := 1) (ty := .boolean) hx hb hr rfl (fun t ht hW => ⟨⟨1, (upd tx 0 b), rfl, (by first | assumption | with_reducible rfl | contradiction | exact (if_pos (by repeat' (first | assumption | decide | constructor))).symm | exact (if_neg (fun hh => absurd hh (by assumption))).symm | exact (if_neg (fun hh => absurd hh.1 (by assumption))).symm | exact (if_neg (fun hh => absurd hh.2 (by assumption))).symm | exact (if_neg (fun hh => absurd hh.1.1 (by assumption))).symm | exact (if_neg (fun hh => absurd hh.1.2 (by assumption))).symm | exact (if_neg (fun hh => absurd hh.2.1 (by assumption))).symm | exact (if_neg (fun hh => absurd hh.2.2 (by assumption))).symm | exact (if_neg (fun hh => absurd hh.2.2.1 (by assumption))).symm | exact (if_neg (fun hh => absurd hh.2.2.2 (by assumption))).symm | exact (if_neg (fun hh => absurd hh.2.2.2.1 (by assumption))).symm | exact (if_neg (fun hh => absurd hh.2.2.2.2 (by assumption))).symm | decide | (exfalso; simp only [zi_le, zi_lt, zi_eq, zi_n0, zi_n1, zi_n2, zi_n3, zi_n4, zi_n23, zi_n24, zi_n100, zi_n399, zi_n60, zi_n255, zi_n99, zi_nm1, zi_n30] at *; omega) | (simp_all; done)), ⟨by rw [ht]; exact hP, hD⟩⟩, hS.F ht⟩) hS.2.2 dX1_append_32
  · skip
    exact absurd (by decide) c_1
set_option maxHeartbeats 4000000 in
set_option maxRecDepth 100000 in
theorem c_X1_empty (l : Launch) (dC : Nat → ClassId) (dI : Nat → Nat → Nat) (k : Nat → ClassId) (T : List (ClassId × FieldType)) (h0 : Nat) (a1 : Nat) (a2 : Nat) (tx : Nat → Int32) (sh : Nat → Int64) (cm : Int64) (ia : Int32) (isz : Int32) (ifa : Int32) (iyh : Int32) (iyn : Int32) (ilu : Int32) (sz : Nat)  : Met l yX1_empty (wz yX1_empty cX1_empty 1 none) ({ frames := 0, cells := 0, slots := 0, locals := 0 }) (va_Pc [.ref h0] (zPre dC dI k T (zDes k h0 a1 a2 tx sh cm ia isz ifa iyh iyn ilu) sz)) (va_Qv (fun (u : Unit) => True) (fun u t => zPost dC dI (va_A (zDes k h0 a1 a2 tx sh cm ia isz ifa iyh iyn ilu) sz) (zDes k h0 a1 a2 tx sh cm ia 0 ifa iyh iyn ilu) t) (va_A (zDes k h0 a1 a2 tx sh cm ia isz ifa iyh iyn ilu) sz)) 0 0 (va_A (zDes k h0 a1 a2 tx sh cm ia isz ifa iyh iyn ilu) sz) := by
  refine Met.ofW (cc := cX1_empty) (maxL := 1) (ret := none) (by decide) rfl ?_
  intro p e s m args below meth c s₁ B hml hv
  obtain ⟨rfl, hsz, hP, hK, hD0⟩ := hv
  have hx := B.exec
  have hb := B.bytes
  have hr := B.returns
  have hts : ∀ w ∈ zw, w.before _ s = true := fun w h => atoms_spec (ws := (wz yX1_empty cX1_empty 1 none)) B.pre w (List.mem_cons_of_mem _ h)
  have hown : s.vm.findClass RX1 = some m.cls := findClass_of_methodNamed B.named
  have hlocks := B.notSynchronized
  subst hsz
  have hi1 := inw1
  have hD := hD0.self (sz := s.heap.size)
  generalize hAe : va_A (zDes k h0 a1 a2 tx sh cm ia isz ifa iyh iyn ilu) s.heap.size = A at hD ⊢
  have hA : ∀ q : Nat, s.heap.size ≤ q → A q := fun q h => by rw [← hAe]; exact Or.inr h
  have hl := lv_entry ([.ref h0]) (n := 1) (Nat.le_of_ble_eq_true rfl)
  rw [lg_entry_eq]
  generalize (lg_sl ([.ref h0]) ++ List.replicate (1 - (lg_sl ([.ref h0])).length) Slot.unset).toArray = ls at hl ⊢
  have hl : lv_has ls 1 [(0, .ref h0)] := hl
  refine z_start (w := (zDes k h0 a1 a2 tx sh cm ia isz ifa iyh iyn ilu)) hP hD (fun H locs hP hD hS => ?_)
  refine lv_aload_n hx hb dX1_empty_0 rfl (lv_at hl 0 rfl) ?_
  refine lv_iconst (v := 0) hx hb dX1_empty_1 (by decide) ?_
  refine va_put (D := (dC, dI)) (ci := 1) (v := .int 0) (ty := .int) (C := RX1) (T := TX1) (N := 9) hx hb hts hi1 tyX1 tyX1_ok nmX1 hown hK.1 hP hD hS 0 rfl rfl 4 (by decide) (hts _ wmt1_122) (fun _ h9 => h9) rfl (by decide +kernel) rfl rfl (Nat.le_of_ble_eq_true rfl) dX1_empty_2 (fun H locs hP hD hS => ?_)
  have hP : va_P (dC, dI) vwCl (zDes k h0 a1 a2 tx sh cm ia 0 ifa iyh iyn ilu) H := hP
  have hD : va_D A (zDes k h0 a1 a2 tx sh cm ia 0 ifa iyh iyn ilu) := hD
  exact W.vret hx hb hr (fun t ht hW => ⟨⟨(), rfl, trivial, ⟨by rw [ht]; exact hP, hD⟩⟩, hS.F ht⟩) hS.2.2 dX1_empty_5
set_option maxHeartbeats 4000000 in
set_option maxRecDepth 100000 in
theorem c_X1_byteAt_e (l : Launch) (dC : Nat → ClassId) (dI : Nat → Nat → Nat) (k : Nat → ClassId) (T : List (ClassId × FieldType)) (h0 : Nat) (a1 : Nat) (a2 : Nat) (tx : Nat → Int32) (sh : Nat → Int64) (cm : Int64) (ia : Int32) (ifa : Int32) (iyh : Int32) (iyn : Int32) (ilu : Int32) (sz : Nat)  : Met l yX1_byteAt (wz yX1_byteAt cX1_byteAt 2 (some .int)) ({ frames := 0, cells := 0, slots := 0, locals := 0 }) (va_Pc [.ref h0, .int 0] (zPre dC dI k T (zDes k h0 a1 a2 tx sh cm ia 0 ifa iyh iyn ilu) sz)) (va_Qi (fun (r : Int32) (u : Unit) => r = (-1)) (fun u t => zPost dC dI (va_A (zDes k h0 a1 a2 tx sh cm ia 0 ifa iyh iyn ilu) sz) (zDes k h0 a1 a2 tx sh cm ia 0 ifa iyh iyn ilu) t) (va_A (zDes k h0 a1 a2 tx sh cm ia 0 ifa iyh iyn ilu) sz)) 0 0 (va_A (zDes k h0 a1 a2 tx sh cm ia 0 ifa iyh iyn ilu) sz) := by
  refine Met.ofW (cc := cX1_byteAt) (maxL := 2) (ret := (some .int)) (by decide) rfl ?_
  intro p e s m args below meth c s₁ B hml hv
  obtain ⟨rfl, hsz, hP, hK, hD0⟩ := hv
  have hx := B.exec
  have hb := B.bytes
  have hr := B.returns
  have hts : ∀ w ∈ zw, w.before _ s = true := fun w h => atoms_spec (ws := (wz yX1_byteAt cX1_byteAt 2 (some .int))) B.pre w (List.mem_cons_of_mem _ h)
  have hown : s.vm.findClass RX1 = some m.cls := findClass_of_methodNamed B.named
  have hlocks := B.notSynchronized
  subst hsz
  have hi1 := inw1
  have hD := hD0.self (sz := s.heap.size)
  generalize hAe : va_A (zDes k h0 a1 a2 tx sh cm ia 0 ifa iyh iyn ilu) s.heap.size = A at hD ⊢
  have hA : ∀ q : Nat, s.heap.size ≤ q → A q := fun q h => by rw [← hAe]; exact Or.inr h
  have hl := lv_entry ([.ref h0, .int 0]) (n := 2) (Nat.le_of_ble_eq_true rfl)
  rw [lg_entry_eq]
  generalize (lg_sl ([.ref h0, .int 0]) ++ List.replicate (2 - (lg_sl ([.ref h0, .int 0])).length) Slot.unset).toArray = ls at hl ⊢
  have hl : lv_has ls 2 [(0, .ref h0), (1, .int 0)] := hl
  refine z_start (w := (zDes k h0 a1 a2 tx sh cm ia 0 ifa iyh iyn ilu)) hP hD (fun H locs hP hD hS => ?_)
  refine lv_iload_n hx hb dX1_byteAt_0 rfl (lv_at hl 1 rfl) ?_
  refine lv_if_lt (tgt := 27) hx hb dX1_byteAt_1 (by decide) (fun c_1 => ?_) (fun c_1 => ?_)
  · skip
    exact absurd c_1 (by decide)
  · skip
    refine lv_iload_n hx hb dX1_byteAt_4 rfl (lv_at hl 1 rfl) ?_
    refine lv_aload_n hx hb dX1_byteAt_5 rfl (lv_at hl 0 rfl) ?_
    refine va_get (D := (dC, dI)) (ci := 1) (v := .int 0) (C := RX1) (T := TX1) (N := 9) hx hb hts hi1 hown hK.1 hP 0 rfl rfl 4 (by decide) (hts _ wmt1_122) (fun _ h9 => h9) rfl dX1_byteAt_6 ?_
    refine lv_icmp_ge (tgt := 27) hx hb dX1_byteAt_9 (by decide) (fun c_2 => ?_) (fun c_2 => ?_)
    · skip
      refine lv_iconst (v := (-1)) hx hb dX1_byteAt_27 (by decide) ?_
      exact W.iret (v := (-1)) hx hb hr (fun t ht hW => ⟨⟨(-1), (), rfl, (by first | assumption | with_reducible rfl | contradiction | exact (if_pos (by repeat' (first | assumption | decide | constructor))).symm | exact (if_neg (fun hh => absurd hh (by assumption))).symm | exact (if_neg (fun hh => absurd hh.1 (by assumption))).symm | exact (if_neg (fun hh => absurd hh.2 (by assumption))).symm | exact (if_neg (fun hh => absurd hh.1.1 (by assumption))).symm | exact (if_neg (fun hh => absurd hh.1.2 (by assumption))).symm | exact (if_neg (fun hh => absurd hh.2.1 (by assumption))).symm | exact (if_neg (fun hh => absurd hh.2.2 (by assumption))).symm | exact (if_neg (fun hh => absurd hh.2.2.1 (by assumption))).symm | exact (if_neg (fun hh => absurd hh.2.2.2 (by assumption))).symm | exact (if_neg (fun hh => absurd hh.2.2.2.1 (by assumption))).symm | exact (if_neg (fun hh => absurd hh.2.2.2.2 (by assumption))).symm | decide | (exfalso; simp only [zi_le, zi_lt, zi_eq, zi_n0, zi_n1, zi_n2, zi_n3, zi_n4, zi_n23, zi_n24, zi_n100, zi_n399, zi_n60, zi_n255, zi_n99, zi_nm1, zi_n30] at *; omega) | (simp_all; done)), ⟨by rw [ht]; exact hP, hD⟩⟩, hS.F ht⟩) hS.2.2 dX1_byteAt_28
    · skip
      exact absurd (by decide) c_2
set_option maxHeartbeats 4000000 in
set_option maxRecDepth 100000 in
theorem c_X1_byteAt_1 (l : Launch) (dC : Nat → ClassId) (dI : Nat → Nat → Nat) (k : Nat → ClassId) (T : List (ClassId × FieldType)) (h0 : Nat) (a1 : Nat) (a2 : Nat) (tx : Nat → Int32) (sh : Nat → Int64) (cm : Int64) (ia : Int32) (ifa : Int32) (iyh : Int32) (iyn : Int32) (ilu : Int32) (sz : Nat)  : Met l yX1_byteAt (wz yX1_byteAt cX1_byteAt 2 (some .int)) ({ frames := 0, cells := 0, slots := 0, locals := 0 }) (va_Pc [.ref h0, .int 1] (zPre dC dI k T (zDes k h0 a1 a2 tx sh cm ia 1 ifa iyh iyn ilu) sz)) (va_Qi (fun (r : Int32) (u : Unit) => r = (-1)) (fun u t => zPost dC dI (va_A (zDes k h0 a1 a2 tx sh cm ia 1 ifa iyh iyn ilu) sz) (zDes k h0 a1 a2 tx sh cm ia 1 ifa iyh iyn ilu) t) (va_A (zDes k h0 a1 a2 tx sh cm ia 1 ifa iyh iyn ilu) sz)) 0 0 (va_A (zDes k h0 a1 a2 tx sh cm ia 1 ifa iyh iyn ilu) sz) := by
  refine Met.ofW (cc := cX1_byteAt) (maxL := 2) (ret := (some .int)) (by decide) rfl ?_
  intro p e s m args below meth c s₁ B hml hv
  obtain ⟨rfl, hsz, hP, hK, hD0⟩ := hv
  have hx := B.exec
  have hb := B.bytes
  have hr := B.returns
  have hts : ∀ w ∈ zw, w.before _ s = true := fun w h => atoms_spec (ws := (wz yX1_byteAt cX1_byteAt 2 (some .int))) B.pre w (List.mem_cons_of_mem _ h)
  have hown : s.vm.findClass RX1 = some m.cls := findClass_of_methodNamed B.named
  have hlocks := B.notSynchronized
  subst hsz
  have hi1 := inw1
  have hD := hD0.self (sz := s.heap.size)
  generalize hAe : va_A (zDes k h0 a1 a2 tx sh cm ia 1 ifa iyh iyn ilu) s.heap.size = A at hD ⊢
  have hA : ∀ q : Nat, s.heap.size ≤ q → A q := fun q h => by rw [← hAe]; exact Or.inr h
  have hl := lv_entry ([.ref h0, .int 1]) (n := 2) (Nat.le_of_ble_eq_true rfl)
  rw [lg_entry_eq]
  generalize (lg_sl ([.ref h0, .int 1]) ++ List.replicate (2 - (lg_sl ([.ref h0, .int 1])).length) Slot.unset).toArray = ls at hl ⊢
  have hl : lv_has ls 2 [(0, .ref h0), (1, .int 1)] := hl
  refine z_start (w := (zDes k h0 a1 a2 tx sh cm ia 1 ifa iyh iyn ilu)) hP hD (fun H locs hP hD hS => ?_)
  refine lv_iload_n hx hb dX1_byteAt_0 rfl (lv_at hl 1 rfl) ?_
  refine lv_if_lt (tgt := 27) hx hb dX1_byteAt_1 (by decide) (fun c_1 => ?_) (fun c_1 => ?_)
  · skip
    exact absurd c_1 (by decide)
  · skip
    refine lv_iload_n hx hb dX1_byteAt_4 rfl (lv_at hl 1 rfl) ?_
    refine lv_aload_n hx hb dX1_byteAt_5 rfl (lv_at hl 0 rfl) ?_
    refine va_get (D := (dC, dI)) (ci := 1) (v := .int 1) (C := RX1) (T := TX1) (N := 9) hx hb hts hi1 hown hK.1 hP 0 rfl rfl 4 (by decide) (hts _ wmt1_122) (fun _ h9 => h9) rfl dX1_byteAt_6 ?_
    refine lv_icmp_ge (tgt := 27) hx hb dX1_byteAt_9 (by decide) (fun c_2 => ?_) (fun c_2 => ?_)
    · skip
      refine lv_iconst (v := (-1)) hx hb dX1_byteAt_27 (by decide) ?_
      exact W.iret (v := (-1)) hx hb hr (fun t ht hW => ⟨⟨(-1), (), rfl, (by first | assumption | with_reducible rfl | contradiction | exact (if_pos (by repeat' (first | assumption | decide | constructor))).symm | exact (if_neg (fun hh => absurd hh (by assumption))).symm | exact (if_neg (fun hh => absurd hh.1 (by assumption))).symm | exact (if_neg (fun hh => absurd hh.2 (by assumption))).symm | exact (if_neg (fun hh => absurd hh.1.1 (by assumption))).symm | exact (if_neg (fun hh => absurd hh.1.2 (by assumption))).symm | exact (if_neg (fun hh => absurd hh.2.1 (by assumption))).symm | exact (if_neg (fun hh => absurd hh.2.2 (by assumption))).symm | exact (if_neg (fun hh => absurd hh.2.2.1 (by assumption))).symm | exact (if_neg (fun hh => absurd hh.2.2.2 (by assumption))).symm | exact (if_neg (fun hh => absurd hh.2.2.2.1 (by assumption))).symm | exact (if_neg (fun hh => absurd hh.2.2.2.2 (by assumption))).symm | decide | (exfalso; simp only [zi_le, zi_lt, zi_eq, zi_n0, zi_n1, zi_n2, zi_n3, zi_n4, zi_n23, zi_n24, zi_n100, zi_n399, zi_n60, zi_n255, zi_n99, zi_nm1, zi_n30] at *; omega) | (simp_all; done)), ⟨by rw [ht]; exact hP, hD⟩⟩, hS.F ht⟩) hS.2.2 dX1_byteAt_28
    · skip
      exact absurd (by decide) c_2
set_option maxHeartbeats 4000000 in
set_option maxRecDepth 100000 in
theorem c_X1_byteAt_0 (l : Launch) (dC : Nat → ClassId) (dI : Nat → Nat → Nat) (k : Nat → ClassId) (T : List (ClassId × FieldType)) (h0 : Nat) (a1 : Nat) (a2 : Nat) (tx : Nat → Int32) (sh : Nat → Int64) (cm : Int64) (ia : Int32) (ifa : Int32) (iyh : Int32) (iyn : Int32) (ilu : Int32) (sz : Nat)  : Met l yX1_byteAt (wz yX1_byteAt cX1_byteAt 2 (some .int)) ({ frames := 0, cells := 0, slots := 0, locals := 0 }) (va_Pc [.ref h0, .int 0] (zPre dC dI k T (zDes k h0 a1 a2 tx sh cm ia 1 ifa iyh iyn ilu) sz)) (va_Qi (fun (r : Int32) (u : Unit) => r = tx 0) (fun u t => zPost dC dI (va_A (zDes k h0 a1 a2 tx sh cm ia 1 ifa iyh iyn ilu) sz) (zDes k h0 a1 a2 tx sh cm ia 1 ifa iyh iyn ilu) t) (va_A (zDes k h0 a1 a2 tx sh cm ia 1 ifa iyh iyn ilu) sz)) 0 0 (va_A (zDes k h0 a1 a2 tx sh cm ia 1 ifa iyh iyn ilu) sz) := by
  refine Met.ofW (cc := cX1_byteAt) (maxL := 2) (ret := (some .int)) (by decide) rfl ?_
  intro p e s m args below meth c s₁ B hml hv
  obtain ⟨rfl, hsz, hP, hK, hD0⟩ := hv
  have hx := B.exec
  have hb := B.bytes
  have hr := B.returns
  have hts : ∀ w ∈ zw, w.before _ s = true := fun w h => atoms_spec (ws := (wz yX1_byteAt cX1_byteAt 2 (some .int))) B.pre w (List.mem_cons_of_mem _ h)
  have hown : s.vm.findClass RX1 = some m.cls := findClass_of_methodNamed B.named
  have hlocks := B.notSynchronized
  subst hsz
  have hi1 := inw1
  have hD := hD0.self (sz := s.heap.size)
  generalize hAe : va_A (zDes k h0 a1 a2 tx sh cm ia 1 ifa iyh iyn ilu) s.heap.size = A at hD ⊢
  have hA : ∀ q : Nat, s.heap.size ≤ q → A q := fun q h => by rw [← hAe]; exact Or.inr h
  have hl := lv_entry ([.ref h0, .int 0]) (n := 2) (Nat.le_of_ble_eq_true rfl)
  rw [lg_entry_eq]
  generalize (lg_sl ([.ref h0, .int 0]) ++ List.replicate (2 - (lg_sl ([.ref h0, .int 0])).length) Slot.unset).toArray = ls at hl ⊢
  have hl : lv_has ls 2 [(0, .ref h0), (1, .int 0)] := hl
  refine z_start (w := (zDes k h0 a1 a2 tx sh cm ia 1 ifa iyh iyn ilu)) hP hD (fun H locs hP hD hS => ?_)
  refine lv_iload_n hx hb dX1_byteAt_0 rfl (lv_at hl 1 rfl) ?_
  refine lv_if_lt (tgt := 27) hx hb dX1_byteAt_1 (by decide) (fun c_1 => ?_) (fun c_1 => ?_)
  · skip
    exact absurd c_1 (by decide)
  · skip
    refine lv_iload_n hx hb dX1_byteAt_4 rfl (lv_at hl 1 rfl) ?_
    refine lv_aload_n hx hb dX1_byteAt_5 rfl (lv_at hl 0 rfl) ?_
    refine va_get (D := (dC, dI)) (ci := 1) (v := .int 1) (C := RX1) (T := TX1) (N := 9) hx hb hts hi1 hown hK.1 hP 0 rfl rfl 4 (by decide) (hts _ wmt1_122) (fun _ h9 => h9) rfl dX1_byteAt_6 ?_
    refine lv_icmp_ge (tgt := 27) hx hb dX1_byteAt_9 (by decide) (fun c_2 => ?_) (fun c_2 => ?_)
    · skip
      exact absurd c_2 (by decide)
    · skip
      refine lv_iload_n hx hb dX1_byteAt_12 rfl (lv_at hl 1 rfl) ?_
      refine lv_bipush (v := 60) hx hb dX1_byteAt_13 (by decide) ?_
      refine lv_icmp_ge (tgt := 27) hx hb dX1_byteAt_15 (by decide) (fun c_3 => ?_) (fun c_3 => ?_)
      · skip
        exact absurd c_3 (by decide)
      · skip
        refine lv_aload_n hx hb dX1_byteAt_18 rfl (lv_at hl 0 rfl) ?_
        refine va_get (D := (dC, dI)) (ci := 1) (v := .ref a1) (C := RX1) (T := TX1) (N := 9) hx hb hts hi1 hown hK.1 hP 0 rfl rfl 0 (by decide) (hts _ wmt1_118) (fun _ h9 => h9) rfl dX1_byteAt_19 ?_
        refine lv_iload_n hx hb dX1_byteAt_22 rfl (lv_at hl 1 rfl) ?_
        refine va_iald (D := (dC, dI)) hx hb hK.1 hP 1 0 rfl rfl (show ¬ _ by decide) dX1_byteAt_23 ?_
        refine z_top (v2 := .int (tx 0)) (rfl) ?_
        refine lv_topi (fun x_4 ex_4 => ?_)
        refine lv_goto (tgt := 28) hx hb dX1_byteAt_24 (by decide) ?_
        exact W.iret (v := x_4) hx hb hr (fun t ht hW => ⟨⟨x_4, (), rfl, (by first | assumption | with_reducible rfl | contradiction | exact (if_pos (by repeat' (first | assumption | decide | constructor))).symm | exact (if_neg (fun hh => absurd hh (by assumption))).symm | exact (if_neg (fun hh => absurd hh.1 (by assumption))).symm | exact (if_neg (fun hh => absurd hh.2 (by assumption))).symm | exact (if_neg (fun hh => absurd hh.1.1 (by assumption))).symm | exact (if_neg (fun hh => absurd hh.1.2 (by assumption))).symm | exact (if_neg (fun hh => absurd hh.2.1 (by assumption))).symm | exact (if_neg (fun hh => absurd hh.2.2 (by assumption))).symm | exact (if_neg (fun hh => absurd hh.2.2.1 (by assumption))).symm | exact (if_neg (fun hh => absurd hh.2.2.2 (by assumption))).symm | exact (if_neg (fun hh => absurd hh.2.2.2.1 (by assumption))).symm | exact (if_neg (fun hh => absurd hh.2.2.2.2 (by assumption))).symm | decide | (exfalso; simp only [zi_le, zi_lt, zi_eq, zi_n0, zi_n1, zi_n2, zi_n3, zi_n4, zi_n23, zi_n24, zi_n100, zi_n399, zi_n60, zi_n255, zi_n99, zi_nm1, zi_n30] at *; omega) | (simp_all; done)), ⟨by rw [ht]; exact hP, hD⟩⟩, hS.F ht⟩) hS.2.2 dX1_byteAt_28
set_option maxHeartbeats 4000000 in
set_option maxRecDepth 100000 in
theorem c_X1_figureAt (l : Launch) (dC : Nat → ClassId) (dI : Nat → Nat → Nat) (k : Nat → ClassId) (T : List (ClassId × FieldType)) (h0 : Nat) (a1 : Nat) (a2 : Nat) (tx : Nat → Int32) (sh : Nat → Int64) (cm : Int64) (ia : Int32) (ifa : Int32) (iyh : Int32) (iyn : Int32) (ilu : Int32) (sz : Nat)  : Met l yX1_figureAt (wz yX1_figureAt cX1_figureAt 3 (some .int)) ({ frames := 1, cells := 0, slots := 0, locals := 21 }) (va_Pc [.ref h0, .int 1] (zPre dC dI k T (zDes k h0 a1 a2 tx sh cm ia 1 ifa iyh iyn ilu) sz)) (va_Qi (fun (r : Int32) (u : Unit) => r = (-1)) (fun u t => zPost dC dI (va_A (zDes k h0 a1 a2 tx sh cm ia 1 ifa iyh iyn ilu) sz) (zDes k h0 a1 a2 tx sh cm ia 1 ifa iyh iyn ilu) t) (va_A (zDes k h0 a1 a2 tx sh cm ia 1 ifa iyh iyn ilu) sz)) 0 0 (va_A (zDes k h0 a1 a2 tx sh cm ia 1 ifa iyh iyn ilu) sz) := by
  refine Met.ofW (cc := cX1_figureAt) (maxL := 3) (ret := (some .int)) (by decide) rfl ?_
  intro p e s m args below meth c s₁ B hml hv
  obtain ⟨rfl, hsz, hP, hK, hD0⟩ := hv
  have hx := B.exec
  have hb := B.bytes
  have hr := B.returns
  have hts : ∀ w ∈ zw, w.before _ s = true := fun w h => atoms_spec (ws := (wz yX1_figureAt cX1_figureAt 3 (some .int))) B.pre w (List.mem_cons_of_mem _ h)
  have hown : s.vm.findClass RX1 = some m.cls := findClass_of_methodNamed B.named
  have hlocks := B.notSynchronized
  subst hsz
  have hD := hD0.self (sz := s.heap.size)
  generalize hAe : va_A (zDes k h0 a1 a2 tx sh cm ia 1 ifa iyh iyn ilu) s.heap.size = A at hD ⊢
  have hA : ∀ q : Nat, s.heap.size ≤ q → A q := fun q h => by rw [← hAe]; exact Or.inr h
  have hl := lv_entry ([.ref h0, .int 1]) (n := 3) (Nat.le_of_ble_eq_true rfl)
  rw [lg_entry_eq]
  generalize (lg_sl ([.ref h0, .int 1]) ++ List.replicate (3 - (lg_sl ([.ref h0, .int 1])).length) Slot.unset).toArray = ls at hl ⊢
  have hl : lv_has ls 3 [(0, .ref h0), (1, .int 1)] := hl
  refine z_start (w := (zDes k h0 a1 a2 tx sh cm ia 1 ifa iyh iyn ilu)) hP hD (fun H locs hP hD hS => ?_)
  refine lv_aload_n hx hb dX1_figureAt_0 rfl (lv_at hl 0 rfl) ?_
  refine lv_iload_n hx hb dX1_figureAt_1 rfl (lv_at hl 1 rfl) ?_
  refine zc_i (w := (zDes k h0 a1 a2 tx sh cm ia 1 ifa iyh iyn ilu)) (wc := (zDes k h0 a1 a2 tx sh cm ia 1 ifa iyh iyn ilu)) (wr := []) (va_runV (As := [.int 1]) (rest := []) ⟨hx, hb, hml, hown, hts⟩ (c_X1_byteAt_1 l dC dI k T h0 a1 a2 tx sh cm ia ifa iyh iyn ilu _ ) (cwV 1 hts (gzV wmt1_233 wmt1_235 wmp1_2 wmt1_6 wmt1_236) rfl rfl rfl (by decide +kernel) ⟨Nat.le_of_ble_eq_true rfl, Nat.le_of_ble_eq_true rfl⟩) (zp_V (ci := 1) (q0 := 0) hK hP hD [0, 1, 2] rfl rfl rfl rfl) rfl rfl hl.1 rfl (lv_room (Nat.le_of_ble_eq_true rfl)) dX1_figureAt_2 ⟨Nat.le_of_ble_eq_true rfl, Nat.le_of_ble_eq_true rfl⟩) hP hD hS hA [0, 1, 2] [] rfl rfl (by decide) (by decide) (fun r_1 u_2 H locs w_3 hP hD hS => ?_)
  have hP : va_P (dC, dI) vwCl (zDes k h0 a1 a2 tx sh cm ia 1 ifa iyh iyn ilu) H := hP.sub [0, 1, 2] rfl
  have hD : va_D A (zDes k h0 a1 a2 tx sh cm ia 1 ifa iyh iyn ilu) := hD.sub [0, 1, 2] (by decide) rfl
  have e_4 := w_3
  replace e_4 : r_1 = (-1) := e_4
  subst e_4
  refine lv_istore_n (lv' := [(2, .int (-1)), (0, .ref h0), (1, .int 1)]) hx hb dX1_figureAt_5 rfl hl (by decide) rfl (fun ls hl => ?_)
  refine lv_iload_n hx hb dX1_figureAt_6 rfl (lv_at hl 0 rfl) ?_
  refine lv_bipush (v := 48) hx hb dX1_figureAt_7 (by decide) ?_
  refine lv_icmp_lt (tgt := 25) hx hb dX1_figureAt_9 (by decide) (fun c_5 => ?_) (fun c_5 => ?_)
  · skip
    refine lv_iconst (v := (-1)) hx hb dX1_figureAt_25 (by decide) ?_
    exact W.iret (v := (-1)) hx hb hr (fun t ht hW => ⟨⟨(-1), (), rfl, (by first | assumption | with_reducible rfl | contradiction | exact (if_pos (by repeat' (first | assumption | decide | constructor))).symm | exact (if_neg (fun hh => absurd hh (by assumption))).symm | exact (if_neg (fun hh => absurd hh.1 (by assumption))).symm | exact (if_neg (fun hh => absurd hh.2 (by assumption))).symm | exact (if_neg (fun hh => absurd hh.1.1 (by assumption))).symm | exact (if_neg (fun hh => absurd hh.1.2 (by assumption))).symm | exact (if_neg (fun hh => absurd hh.2.1 (by assumption))).symm | exact (if_neg (fun hh => absurd hh.2.2 (by assumption))).symm | exact (if_neg (fun hh => absurd hh.2.2.1 (by assumption))).symm | exact (if_neg (fun hh => absurd hh.2.2.2 (by assumption))).symm | exact (if_neg (fun hh => absurd hh.2.2.2.1 (by assumption))).symm | exact (if_neg (fun hh => absurd hh.2.2.2.2 (by assumption))).symm | decide | (exfalso; simp only [zi_le, zi_lt, zi_eq, zi_n0, zi_n1, zi_n2, zi_n3, zi_n4, zi_n23, zi_n24, zi_n100, zi_n399, zi_n60, zi_n255, zi_n99, zi_nm1, zi_n30] at *; omega) | (simp_all; done)), ⟨by rw [ht]; exact hP, hD⟩⟩, hS.F ht⟩) hS.2.2 dX1_figureAt_26
  · skip
    exact absurd (by decide) c_5
set_option maxHeartbeats 4000000 in
set_option maxRecDepth 100000 in
theorem c_X1_parseNumber (l : Launch) (dC : Nat → ClassId) (dI : Nat → Nat → Nat) (k : Nat → ClassId) (T : List (ClassId × FieldType)) (h0 : Nat) (a1 : Nat) (a2 : Nat) (tx : Nat → Int32) (sh : Nat → Int64) (cm : Int64) (ifa : Int32) (iyh : Int32) (iyn : Int32) (ilu : Int32) (sz : Nat)  : Met l yX1_parseNumber (wz yX1_parseNumber cX1_parseNumber 3 (some .int)) ({ frames := 2, cells := 0, slots := 0, locals := 43 }) (va_Pc [.ref h0] (zPre dC dI k T (zDes k h0 a1 a2 tx sh cm 1 1 ifa iyh iyn ilu) sz)) (va_Qi (fun (r : Int32) (u : Unit) => r = (-1)) (fun u t => zPost dC dI (va_A (zDes k h0 a1 a2 tx sh cm 1 1 ifa iyh iyn ilu) sz) (zDes k h0 a1 a2 tx sh cm 1 1 ifa iyh iyn ilu) t) (va_A (zDes k h0 a1 a2 tx sh cm 1 1 ifa iyh iyn ilu) sz)) 0 0 (va_A (zDes k h0 a1 a2 tx sh cm 1 1 ifa iyh iyn ilu) sz) := by
  refine Met.ofW (cc := cX1_parseNumber) (maxL := 3) (ret := (some .int)) (by decide) rfl ?_
  intro p e s m args below meth c s₁ B hml hv
  obtain ⟨rfl, hsz, hP, hK, hD0⟩ := hv
  have hx := B.exec
  have hb := B.bytes
  have hr := B.returns
  have hts : ∀ w ∈ zw, w.before _ s = true := fun w h => atoms_spec (ws := (wz yX1_parseNumber cX1_parseNumber 3 (some .int))) B.pre w (List.mem_cons_of_mem _ h)
  have hown : s.vm.findClass RX1 = some m.cls := findClass_of_methodNamed B.named
  have hlocks := B.notSynchronized
  subst hsz
  have hi1 := inw1
  have hD := hD0.self (sz := s.heap.size)
  generalize hAe : va_A (zDes k h0 a1 a2 tx sh cm 1 1 ifa iyh iyn ilu) s.heap.size = A at hD ⊢
  have hA : ∀ q : Nat, s.heap.size ≤ q → A q := fun q h => by rw [← hAe]; exact Or.inr h
  have hl := lv_entry ([.ref h0]) (n := 3) (Nat.le_of_ble_eq_true rfl)
  rw [lg_entry_eq]
  generalize (lg_sl ([.ref h0]) ++ List.replicate (3 - (lg_sl ([.ref h0])).length) Slot.unset).toArray = ls at hl ⊢
  have hl : lv_has ls 3 [(0, .ref h0)] := hl
  refine z_start (w := (zDes k h0 a1 a2 tx sh cm 1 1 ifa iyh iyn ilu)) hP hD (fun H locs hP hD hS => ?_)
  refine lv_aload_n hx hb dX1_parseNumber_0 rfl (lv_at hl 0 rfl) ?_
  refine lv_aload_n hx hb dX1_parseNumber_1 rfl (lv_at hl 0 rfl) ?_
  refine va_get (D := (dC, dI)) (ci := 1) (v := .int 1) (C := RX1) (T := TX1) (N := 9) hx hb hts hi1 hown hK.1 hP 0 rfl rfl 3 (by decide) (hts _ wmt1_121) (fun _ h9 => h9) rfl dX1_parseNumber_2 ?_
  refine zc_i (w := (zDes k h0 a1 a2 tx sh cm 1 1 ifa iyh iyn ilu)) (wc := (zDes k h0 a1 a2 tx sh cm 1 1 ifa iyh iyn ilu)) (wr := []) (va_runV (As := [.int 1]) (rest := []) ⟨hx, hb, hml, hown, hts⟩ (c_X1_figureAt l dC dI k T h0 a1 a2 tx sh cm 1 ifa iyh iyn ilu _ ) (cwV 1 hts (gzV wmt2_4 wmt2_6 wmp1_4 wmt1_6 wmt2_7) rfl rfl rfl (by decide +kernel) ⟨Nat.le_of_ble_eq_true rfl, Nat.le_of_ble_eq_true rfl⟩) (zp_V (ci := 1) (q0 := 0) hK hP hD [0, 1, 2] rfl rfl rfl rfl) rfl rfl hl.1 rfl (lv_room (Nat.le_of_ble_eq_true rfl)) dX1_parseNumber_5 ⟨Nat.le_of_ble_eq_true rfl, Nat.le_of_ble_eq_true rfl⟩) hP hD hS hA [0, 1, 2] [] rfl rfl (by decide) (by decide) (fun r_1 u_2 H locs w_3 hP hD hS => ?_)
  have hP : va_P (dC, dI) vwCl (zDes k h0 a1 a2 tx sh cm 1 1 ifa iyh iyn ilu) H := hP.sub [0, 1, 2] rfl
  have hD : va_D A (zDes k h0 a1 a2 tx sh cm 1 1 ifa iyh iyn ilu) := hD.sub [0, 1, 2] (by decide) rfl
  have e_4 := w_3
  replace e_4 : r_1 = (-1) := e_4
  subst e_4
  refine lv_istore_n (lv' := [(1, .int (-1)), (0, .ref h0)]) hx hb dX1_parseNumber_8 rfl hl (by decide) rfl (fun ls hl => ?_)
  refine lv_iload_n hx hb dX1_parseNumber_9 rfl (lv_at hl 0 rfl) ?_
  refine lv_iconst (v := (-1)) hx hb dX1_parseNumber_10 (by decide) ?_
  refine lv_icmp_ne (tgt := 16) hx hb dX1_parseNumber_11 (by decide) (fun c_5 => ?_) (fun c_5 => ?_)
  · skip
    exact absurd c_5 (by decide)
  · skip
    refine lv_iconst (v := (-1)) hx hb dX1_parseNumber_14 (by decide) ?_
    exact W.iret (v := (-1)) hx hb hr (fun t ht hW => ⟨⟨(-1), (), rfl, (by first | assumption | with_reducible rfl | contradiction | exact (if_pos (by repeat' (first | assumption | decide | constructor))).symm | exact (if_neg (fun hh => absurd hh (by assumption))).symm | exact (if_neg (fun hh => absurd hh.1 (by assumption))).symm | exact (if_neg (fun hh => absurd hh.2 (by assumption))).symm | exact (if_neg (fun hh => absurd hh.1.1 (by assumption))).symm | exact (if_neg (fun hh => absurd hh.1.2 (by assumption))).symm | exact (if_neg (fun hh => absurd hh.2.1 (by assumption))).symm | exact (if_neg (fun hh => absurd hh.2.2 (by assumption))).symm | exact (if_neg (fun hh => absurd hh.2.2.1 (by assumption))).symm | exact (if_neg (fun hh => absurd hh.2.2.2 (by assumption))).symm | exact (if_neg (fun hh => absurd hh.2.2.2.1 (by assumption))).symm | exact (if_neg (fun hh => absurd hh.2.2.2.2 (by assumption))).symm | decide | (exfalso; simp only [zi_le, zi_lt, zi_eq, zi_n0, zi_n1, zi_n2, zi_n3, zi_n4, zi_n23, zi_n24, zi_n100, zi_n399, zi_n60, zi_n255, zi_n99, zi_nm1, zi_n30] at *; omega) | (simp_all; done)), ⟨by rw [ht]; exact hP, hD⟩⟩, hS.F ht⟩) hS.2.2 dX1_parseNumber_15
set_option maxHeartbeats 4000000 in
set_option maxRecDepth 100000 in
theorem c_X1_parsePart_e (l : Launch) (dC : Nat → ClassId) (dI : Nat → Nat → Nat) (k : Nat → ClassId) (T : List (ClassId × FieldType)) (h0 : Nat) (a1 : Nat) (a2 : Nat) (tx : Nat → Int32) (sh : Nat → Int64) (cm : Int64) (ifa : Int32) (iyh : Int32) (iyn : Int32) (ilu : Int32) (sz : Nat)  : Met l yX1_parsePart (wz yX1_parsePart cX1_parsePart 8 (some .int)) ({ frames := 1, cells := 0, slots := 0, locals := 21 }) (va_Pc [.ref h0] (zPre dC dI k T (zDes k h0 a1 a2 tx sh cm 0 0 ifa iyh iyn ilu) sz)) (va_Qi (fun (r : Int32) (u : Unit) => r = 0) (fun u t => zPost dC dI (va_A (zDes k h0 a1 a2 tx sh cm 0 0 ifa iyh iyn ilu) sz) (zDes k h0 a1 a2 tx sh cm 0 0 ifa iyh iyn ilu) t) (va_A (zDes k h0 a1 a2 tx sh cm 0 0 ifa iyh iyn ilu) sz)) 0 0 (va_A (zDes k h0 a1 a2 tx sh cm 0 0 ifa iyh iyn ilu) sz) := by
  refine Met.ofW (cc := cX1_parsePart) (maxL := 8) (ret := (some .int)) (by decide) rfl ?_
  intro p e s m args below meth c s₁ B hml hv
  obtain ⟨rfl, hsz, hP, hK, hD0⟩ := hv
  have hx := B.exec
  have hb := B.bytes
  have hr := B.returns
  have hts : ∀ w ∈ zw, w.before _ s = true := fun w h => atoms_spec (ws := (wz yX1_parsePart cX1_parsePart 8 (some .int))) B.pre w (List.mem_cons_of_mem _ h)
  have hown : s.vm.findClass RX1 = some m.cls := findClass_of_methodNamed B.named
  have hlocks := B.notSynchronized
  subst hsz
  have hi1 := inw1
  have hD := hD0.self (sz := s.heap.size)
  generalize hAe : va_A (zDes k h0 a1 a2 tx sh cm 0 0 ifa iyh iyn ilu) s.heap.size = A at hD ⊢
  have hA : ∀ q : Nat, s.heap.size ≤ q → A q := fun q h => by rw [← hAe]; exact Or.inr h
  have hl := lv_entry ([.ref h0]) (n := 8) (Nat.le_of_ble_eq_true rfl)
  rw [lg_entry_eq]
  generalize (lg_sl ([.ref h0]) ++ List.replicate (8 - (lg_sl ([.ref h0])).length) Slot.unset).toArray = ls at hl ⊢
  have hl : lv_has ls 8 [(0, .ref h0)] := hl
  refine z_start (w := (zDes k h0 a1 a2 tx sh cm 0 0 ifa iyh iyn ilu)) hP hD (fun H locs hP hD hS => ?_)
  refine lv_aload_n hx hb dX1_parsePart_0 rfl (lv_at hl 0 rfl) ?_
  refine lv_aload_n hx hb dX1_parsePart_1 rfl (lv_at hl 0 rfl) ?_
  refine va_get (D := (dC, dI)) (ci := 1) (v := .int 0) (C := RX1) (T := TX1) (N := 9) hx hb hts hi1 hown hK.1 hP 0 rfl rfl 3 (by decide) (hts _ wmt1_121) (fun _ h9 => h9) rfl dX1_parsePart_2 ?_
  refine zc_i (w := (zDes k h0 a1 a2 tx sh cm 0 0 ifa iyh iyn ilu)) (wc := (zDes k h0 a1 a2 tx sh cm 0 0 ifa iyh iyn ilu)) (wr := []) (va_runV (As := [.int 0]) (rest := []) ⟨hx, hb, hml, hown, hts⟩ (c_X1_byteAt_e l dC dI k T h0 a1 a2 tx sh cm 0 ifa iyh iyn ilu _ ) (cwV 1 hts (gzV wmt1_233 wmt1_235 wmp1_2 wmt1_6 wmt1_236) rfl rfl rfl (by decide +kernel) ⟨Nat.le_of_ble_eq_true rfl, Nat.le_of_ble_eq_true rfl⟩) (zp_V (ci := 1) (q0 := 0) hK hP hD [0, 1, 2] rfl rfl rfl rfl) rfl rfl hl.1 rfl (lv_room (Nat.le_of_ble_eq_true rfl)) dX1_parsePart_5 ⟨Nat.le_of_ble_eq_true rfl, Nat.le_of_ble_eq_true rfl⟩) hP hD hS hA [0, 1, 2] [] rfl rfl (by decide) (by decide) (fun r_1 u_2 H locs w_3 hP hD hS => ?_)
  have hP : va_P (dC, dI) vwCl (zDes k h0 a1 a2 tx sh cm 0 0 ifa iyh iyn ilu) H := hP.sub [0, 1, 2] rfl
  have hD : va_D A (zDes k h0 a1 a2 tx sh cm 0 0 ifa iyh iyn ilu) := hD.sub [0, 1, 2] (by decide) rfl
  have e_4 := w_3
  replace e_4 : r_1 = (-1) := e_4
  subst e_4
  refine zc_i (w := (zDes k h0 a1 a2 tx sh cm 0 0 ifa iyh iyn ilu)) (wc := []) (wr := ([0, 1, 2].filterMap (fun i => (zDes k h0 a1 a2 tx sh cm 0 0 ifa iyh iyn ilu)[i]?))) (va_runS (As := [.int (-1)]) (rest := []) ⟨hx, hb, hml, hown, hts⟩ (c_X1_letterOf_m1 l dC dI k T  _ ) (va_cwS 1 hts (gzS wmt1_237 wmt1_238 wmt1_6 wmt1_239) rfl rfl rfl (by decide +kernel) ⟨Nat.le_of_ble_eq_true rfl, Nat.le_of_ble_eq_true rfl⟩) (zp_S hK hP hD [] rfl rfl) rfl rfl hl.1 rfl (lv_room (Nat.le_of_ble_eq_true rfl)) dX1_parsePart_8 ⟨Nat.le_of_ble_eq_true rfl, Nat.le_of_ble_eq_true rfl⟩) hP hD hS hA [] [0, 1, 2] rfl rfl (by decide) (by decide) (fun r_5 u_6 H locs w_7 hP hD hS => ?_)
  have hP : va_P (dC, dI) vwCl (zDes k h0 a1 a2 tx sh cm 0 0 ifa iyh iyn ilu) H := hP.sub [0, 1, 2] rfl
  have hD : va_D A (zDes k h0 a1 a2 tx sh cm 0 0 ifa iyh iyn ilu) := hD.sub [0, 1, 2] (by decide) rfl
  have e_8 := w_7
  replace e_8 : r_5 = (-1) := e_8
  subst e_8
  refine lv_istore_n (lv' := [(1, .int (-1)), (0, .ref h0)]) hx hb dX1_parsePart_11 rfl hl (by decide) rfl (fun ls hl => ?_)
  refine lv_iload_n hx hb dX1_parsePart_12 rfl (lv_at hl 0 rfl) ?_
  refine lv_iconst (v := (-1)) hx hb dX1_parsePart_13 (by decide) ?_
  refine lv_icmp_ne (tgt := 22) hx hb dX1_parsePart_14 (by decide) (fun c_9 => ?_) (fun c_9 => ?_)
  · skip
    exact absurd c_9 (by decide)
  · skip
    refine lv_aload_n hx hb dX1_parsePart_17 rfl (lv_at hl 1 rfl) ?_
    refine va_get (D := (dC, dI)) (ci := 1) (v := .int 0) (C := RX1) (T := TX1) (N := 9) hx hb hts hi1 hown hK.1 hP 0 rfl rfl 3 (by decide) (hts _ wmt1_121) (fun _ h9 => h9) rfl dX1_parsePart_18 ?_
    exact W.iret (v := 0) hx hb hr (fun t ht hW => ⟨⟨0, (), rfl, (by first | assumption | with_reducible rfl | contradiction | exact (if_pos (by repeat' (first | assumption | decide | constructor))).symm | exact (if_neg (fun hh => absurd hh (by assumption))).symm | exact (if_neg (fun hh => absurd hh.1 (by assumption))).symm | exact (if_neg (fun hh => absurd hh.2 (by assumption))).symm | exact (if_neg (fun hh => absurd hh.1.1 (by assumption))).symm | exact (if_neg (fun hh => absurd hh.1.2 (by assumption))).symm | exact (if_neg (fun hh => absurd hh.2.1 (by assumption))).symm | exact (if_neg (fun hh => absurd hh.2.2 (by assumption))).symm | exact (if_neg (fun hh => absurd hh.2.2.1 (by assumption))).symm | exact (if_neg (fun hh => absurd hh.2.2.2 (by assumption))).symm | exact (if_neg (fun hh => absurd hh.2.2.2.1 (by assumption))).symm | exact (if_neg (fun hh => absurd hh.2.2.2.2 (by assumption))).symm | decide | (exfalso; simp only [zi_le, zi_lt, zi_eq, zi_n0, zi_n1, zi_n2, zi_n3, zi_n4, zi_n23, zi_n24, zi_n100, zi_n399, zi_n60, zi_n255, zi_n99, zi_nm1, zi_n30] at *; omega) | (simp_all; done)), ⟨by rw [ht]; exact hP, hD⟩⟩, hS.F ht⟩) hS.2.2 dX1_parsePart_21
set_option maxHeartbeats 4000000 in
set_option maxRecDepth 100000 in
theorem c_X1_parsePart_1 (l : Launch) (dC : Nat → ClassId) (dI : Nat → Nat → Nat) (k : Nat → ClassId) (T : List (ClassId × FieldType)) (h0 : Nat) (a1 : Nat) (a2 : Nat) (tx : Nat → Int32) (sh : Nat → Int64) (cm : Int64) (ifa : Int32) (iyh : Int32) (iyn : Int32) (ilu : Int32) (sz : Nat)  : Met l yX1_parsePart (wz yX1_parsePart cX1_parsePart 8 (some .int)) ({ frames := 3, cells := 0, slots := 0, locals := 65 }) (va_Pc [.ref h0] (zPre dC dI k T (zDes k h0 a1 a2 tx sh cm 0 1 ifa iyh iyn ilu) sz)) (va_Qi (fun (r : Int32) (u : Int32) => (r = 0) ∨ (r = 1)) (fun u t => zPost dC dI (va_A (zDes k h0 a1 a2 tx sh cm 0 1 ifa iyh iyn ilu) sz) (zDes k h0 a1 a2 tx sh cm u 1 ifa iyh iyn ilu) t) (va_A (zDes k h0 a1 a2 tx sh cm 0 1 ifa iyh iyn ilu) sz)) 0 0 (va_A (zDes k h0 a1 a2 tx sh cm 0 1 ifa iyh iyn ilu) sz) := by
  refine Met.ofW (cc := cX1_parsePart) (maxL := 8) (ret := (some .int)) (by decide) rfl ?_
  intro p e s m args below meth c s₁ B hml hv
  obtain ⟨rfl, hsz, hP, hK, hD0⟩ := hv
  have hx := B.exec
  have hb := B.bytes
  have hr := B.returns
  have hts : ∀ w ∈ zw, w.before _ s = true := fun w h => atoms_spec (ws := (wz yX1_parsePart cX1_parsePart 8 (some .int))) B.pre w (List.mem_cons_of_mem _ h)
  have hown : s.vm.findClass RX1 = some m.cls := findClass_of_methodNamed B.named
  have hlocks := B.notSynchronized
  subst hsz
  have hi1 := inw1
  have hD := hD0.self (sz := s.heap.size)
  generalize hAe : va_A (zDes k h0 a1 a2 tx sh cm 0 1 ifa iyh iyn ilu) s.heap.size = A at hD ⊢
  have hA : ∀ q : Nat, s.heap.size ≤ q → A q := fun q h => by rw [← hAe]; exact Or.inr h
  have hl := lv_entry ([.ref h0]) (n := 8) (Nat.le_of_ble_eq_true rfl)
  rw [lg_entry_eq]
  generalize (lg_sl ([.ref h0]) ++ List.replicate (8 - (lg_sl ([.ref h0])).length) Slot.unset).toArray = ls at hl ⊢
  have hl : lv_has ls 8 [(0, .ref h0)] := hl
  refine z_start (w := (zDes k h0 a1 a2 tx sh cm 0 1 ifa iyh iyn ilu)) hP hD (fun H locs hP hD hS => ?_)
  refine lv_aload_n hx hb dX1_parsePart_0 rfl (lv_at hl 0 rfl) ?_
  refine lv_aload_n hx hb dX1_parsePart_1 rfl (lv_at hl 0 rfl) ?_
  refine va_get (D := (dC, dI)) (ci := 1) (v := .int 0) (C := RX1) (T := TX1) (N := 9) hx hb hts hi1 hown hK.1 hP 0 rfl rfl 3 (by decide) (hts _ wmt1_121) (fun _ h9 => h9) rfl dX1_parsePart_2 ?_
  refine zc_i (w := (zDes k h0 a1 a2 tx sh cm 0 1 ifa iyh iyn ilu)) (wc := (zDes k h0 a1 a2 tx sh cm 0 1 ifa iyh iyn ilu)) (wr := []) (va_runV (As := [.int 0]) (rest := []) ⟨hx, hb, hml, hown, hts⟩ (c_X1_byteAt_0 l dC dI k T h0 a1 a2 tx sh cm 0 ifa iyh iyn ilu _ ) (cwV 1 hts (gzV wmt1_233 wmt1_235 wmp1_2 wmt1_6 wmt1_236) rfl rfl rfl (by decide +kernel) ⟨Nat.le_of_ble_eq_true rfl, Nat.le_of_ble_eq_true rfl⟩) (zp_V (ci := 1) (q0 := 0) hK hP hD [0, 1, 2] rfl rfl rfl rfl) rfl rfl hl.1 rfl (lv_room (Nat.le_of_ble_eq_true rfl)) dX1_parsePart_5 ⟨Nat.le_of_ble_eq_true rfl, Nat.le_of_ble_eq_true rfl⟩) hP hD hS hA [0, 1, 2] [] rfl rfl (by decide) (by decide) (fun r_1 u_2 H locs w_3 hP hD hS => ?_)
  have hP : va_P (dC, dI) vwCl (zDes k h0 a1 a2 tx sh cm 0 1 ifa iyh iyn ilu) H := hP.sub [0, 1, 2] rfl
  have hD : va_D A (zDes k h0 a1 a2 tx sh cm 0 1 ifa iyh iyn ilu) := hD.sub [0, 1, 2] (by decide) rfl
  have e_4 := w_3
  replace e_4 : r_1 = tx 0 := e_4
  subst e_4
  refine zc_i (w := (zDes k h0 a1 a2 tx sh cm 0 1 ifa iyh iyn ilu)) (wc := []) (wr := ([0, 1, 2].filterMap (fun i => (zDes k h0 a1 a2 tx sh cm 0 1 ifa iyh iyn ilu)[i]?))) (va_runS (As := [.int (tx 0)]) (rest := []) ⟨hx, hb, hml, hown, hts⟩ (c_X1_letterOf l dC dI k T (tx 0) _ ) (va_cwS 1 hts (gzS wmt1_237 wmt1_238 wmt1_6 wmt1_239) rfl rfl rfl (by decide +kernel) ⟨Nat.le_of_ble_eq_true rfl, Nat.le_of_ble_eq_true rfl⟩) (zp_S hK hP hD [] rfl rfl) rfl rfl hl.1 rfl (lv_room (Nat.le_of_ble_eq_true rfl)) dX1_parsePart_8 ⟨Nat.le_of_ble_eq_true rfl, Nat.le_of_ble_eq_true rfl⟩) hP hD hS hA [] [0, 1, 2] rfl rfl (by decide) (by decide) (fun r_5 u_6 H locs w_7 hP hD hS => ?_)
  have hP : va_P (dC, dI) vwCl (zDes k h0 a1 a2 tx sh cm 0 1 ifa iyh iyn ilu) H := hP.sub [0, 1, 2] rfl
  have hD : va_D A (zDes k h0 a1 a2 tx sh cm 0 1 ifa iyh iyn ilu) := hD.sub [0, 1, 2] (by decide) rfl
  rcases w_7 with e_8 | e_9 | e_10 | e_11 | e_12 | e_13
  · skip
    replace e_8 : r_5 = (-1) := e_8
    subst e_8
    refine lv_istore_n (lv' := [(1, .int (-1)), (0, .ref h0)]) hx hb dX1_parsePart_11 rfl hl (by decide) rfl (fun ls hl => ?_)
    refine lv_iload_n hx hb dX1_parsePart_12 rfl (lv_at hl 0 rfl) ?_
    refine lv_iconst (v := (-1)) hx hb dX1_parsePart_13 (by decide) ?_
    refine lv_icmp_ne (tgt := 22) hx hb dX1_parsePart_14 (by decide) (fun c_14 => ?_) (fun c_14 => ?_)
    · skip
      exact absurd c_14 (by decide)
    · skip
      refine lv_aload_n hx hb dX1_parsePart_17 rfl (lv_at hl 1 rfl) ?_
      refine va_get (D := (dC, dI)) (ci := 1) (v := .int 0) (C := RX1) (T := TX1) (N := 9) hx hb hts hi1 hown hK.1 hP 0 rfl rfl 3 (by decide) (hts _ wmt1_121) (fun _ h9 => h9) rfl dX1_parsePart_18 ?_
      exact W.iret (v := 0) hx hb hr (fun t ht hW => ⟨⟨0, (0), rfl, Or.inl (by first | assumption | with_reducible rfl | contradiction | exact (if_pos (by repeat' (first | assumption | decide | constructor))).symm | exact (if_neg (fun hh => absurd hh (by assumption))).symm | exact (if_neg (fun hh => absurd hh.1 (by assumption))).symm | exact (if_neg (fun hh => absurd hh.2 (by assumption))).symm | exact (if_neg (fun hh => absurd hh.1.1 (by assumption))).symm | exact (if_neg (fun hh => absurd hh.1.2 (by assumption))).symm | exact (if_neg (fun hh => absurd hh.2.1 (by assumption))).symm | exact (if_neg (fun hh => absurd hh.2.2 (by assumption))).symm | exact (if_neg (fun hh => absurd hh.2.2.1 (by assumption))).symm | exact (if_neg (fun hh => absurd hh.2.2.2 (by assumption))).symm | exact (if_neg (fun hh => absurd hh.2.2.2.1 (by assumption))).symm | exact (if_neg (fun hh => absurd hh.2.2.2.2 (by assumption))).symm | decide | (exfalso; simp only [zi_le, zi_lt, zi_eq, zi_n0, zi_n1, zi_n2, zi_n3, zi_n4, zi_n23, zi_n24, zi_n100, zi_n399, zi_n60, zi_n255, zi_n99, zi_nm1, zi_n30] at *; omega) | (simp_all; done)), ⟨by rw [ht]; exact hP, hD⟩⟩, hS.F ht⟩) hS.2.2 dX1_parsePart_21
  · skip
    replace e_9 : r_5 = 0 := e_9
    subst e_9
    refine lv_istore_n (lv' := [(1, .int 0), (0, .ref h0)]) hx hb dX1_parsePart_11 rfl hl (by decide) rfl (fun ls hl => ?_)
    refine lv_iload_n hx hb dX1_parsePart_12 rfl (lv_at hl 0 rfl) ?_
    refine lv_iconst (v := (-1)) hx hb dX1_parsePart_13 (by decide) ?_
    refine lv_icmp_ne (tgt := 22) hx hb dX1_parsePart_14 (by decide) (fun c_15 => ?_) (fun c_15 => ?_)
    · skip
      refine lv_aload_n hx hb dX1_parsePart_22 rfl (lv_at hl 1 rfl) ?_
      refine va_get (D := (dC, dI)) (ci := 1) (v := .int 0) (C := RX1) (T := TX1) (N := 9) hx hb hts hi1 hown hK.1 hP 0 rfl rfl 3 (by decide) (hts _ wmt1_121) (fun _ h9 => h9) rfl dX1_parsePart_23 ?_
      refine lv_iconst (v := 1) hx hb dX1_parsePart_26 (by decide) ?_
      refine lv_iadd hx hb dX1_parsePart_27 ?_
      refine z_top (v2 := .int 1) (congrArg Value.int (by decide)) ?_
      refine lv_istore_n (lv' := [(2, .int 1), (1, .int 0), (0, .ref h0)]) hx hb dX1_parsePart_28 rfl hl (by decide) rfl (fun ls hl => ?_)
      refine lv_aload_n hx hb dX1_parsePart_29 rfl (lv_at hl 2 rfl) ?_
      refine lv_iload_n hx hb dX1_parsePart_30 rfl (lv_at hl 0 rfl) ?_
      refine va_put (D := (dC, dI)) (ci := 1) (v := .int 1) (ty := .int) (C := RX1) (T := TX1) (N := 9) hx hb hts hi1 tyX1 tyX1_ok nmX1 hown hK.1 hP hD hS 0 rfl rfl 3 (by decide) (hts _ wmt1_121) (fun _ h9 => h9) rfl (by decide +kernel) rfl rfl (Nat.le_of_ble_eq_true rfl) dX1_parsePart_31 (fun H locs hP hD hS => ?_)
      have hP : va_P (dC, dI) vwCl (zDes k h0 a1 a2 tx sh cm 1 1 ifa iyh iyn ilu) H := hP
      have hD : va_D A (zDes k h0 a1 a2 tx sh cm 1 1 ifa iyh iyn ilu) := hD
      refine lv_aload_n hx hb dX1_parsePart_34 rfl (lv_at hl 2 rfl) ?_
      refine zc_i (w := (zDes k h0 a1 a2 tx sh cm 1 1 ifa iyh iyn ilu)) (wc := (zDes k h0 a1 a2 tx sh cm 1 1 ifa iyh iyn ilu)) (wr := []) (va_runV (As := []) (rest := []) ⟨hx, hb, hml, hown, hts⟩ (c_X1_parseNumber l dC dI k T h0 a1 a2 tx sh cm ifa iyh iyn ilu _ ) (cwV 0 hts (gzV wmt2_0 wmt2_2 wmp1_3 wmt1_6 wmt2_3) rfl rfl rfl (by decide +kernel) ⟨Nat.le_of_ble_eq_true rfl, Nat.le_of_ble_eq_true rfl⟩) (zp_V (ci := 1) (q0 := 0) hK hP hD [0, 1, 2] rfl rfl rfl rfl) rfl rfl hl.1 rfl (lv_room (Nat.le_of_ble_eq_true rfl)) dX1_parsePart_35 ⟨Nat.le_of_ble_eq_true rfl, Nat.le_of_ble_eq_true rfl⟩) hP hD hS hA [0, 1, 2] [] rfl rfl (by decide) (by decide) (fun r_16 u_17 H locs w_18 hP hD hS => ?_)
      have hP : va_P (dC, dI) vwCl (zDes k h0 a1 a2 tx sh cm 1 1 ifa iyh iyn ilu) H := hP.sub [0, 1, 2] rfl
      have hD : va_D A (zDes k h0 a1 a2 tx sh cm 1 1 ifa iyh iyn ilu) := hD.sub [0, 1, 2] (by decide) rfl
      have e_19 := w_18
      replace e_19 : r_16 = (-1) := e_19
      subst e_19
      refine lv_istore_n (lv' := [(3, .int (-1)), (2, .int 1), (1, .int 0), (0, .ref h0)]) hx hb dX1_parsePart_38 rfl hl (by decide) rfl (fun ls hl => ?_)
      refine lv_iload_n hx hb dX1_parsePart_39 rfl (lv_at hl 0 rfl) ?_
      refine lv_bipush (v := 20) hx hb dX1_parsePart_40 (by decide) ?_
      refine lv_icmp_le (tgt := 47) hx hb dX1_parsePart_42 (by decide) (fun c_20 => ?_) (fun c_20 => ?_)
      · skip
        refine lv_iload_n hx hb dX1_parsePart_47 rfl (lv_at hl 0 rfl) ?_
        refine lv_iconst (v := (-1)) hx hb dX1_parsePart_48 (by decide) ?_
        refine lv_icmp_eq (tgt := 65) hx hb dX1_parsePart_49 (by decide) (fun c_21 => ?_) (fun c_21 => ?_)
        · skip
          refine lv_aload_n hx hb dX1_parsePart_65 rfl (lv_at hl 3 rfl) ?_
          refine va_get (D := (dC, dI)) (ci := 1) (v := .int 1) (C := RX1) (T := TX1) (N := 9) hx hb hts hi1 hown hK.1 hP 0 rfl rfl 3 (by decide) (hts _ wmt1_121) (fun _ h9 => h9) rfl dX1_parsePart_66 ?_
          exact W.iret (v := 1) hx hb hr (fun t ht hW => ⟨⟨1, (1), rfl, Or.inr ((by first | assumption | with_reducible rfl | contradiction | exact (if_pos (by repeat' (first | assumption | decide | constructor))).symm | exact (if_neg (fun hh => absurd hh (by assumption))).symm | exact (if_neg (fun hh => absurd hh.1 (by assumption))).symm | exact (if_neg (fun hh => absurd hh.2 (by assumption))).symm | exact (if_neg (fun hh => absurd hh.1.1 (by assumption))).symm | exact (if_neg (fun hh => absurd hh.1.2 (by assumption))).symm | exact (if_neg (fun hh => absurd hh.2.1 (by assumption))).symm | exact (if_neg (fun hh => absurd hh.2.2 (by assumption))).symm | exact (if_neg (fun hh => absurd hh.2.2.1 (by assumption))).symm | exact (if_neg (fun hh => absurd hh.2.2.2 (by assumption))).symm | exact (if_neg (fun hh => absurd hh.2.2.2.1 (by assumption))).symm | exact (if_neg (fun hh => absurd hh.2.2.2.2 (by assumption))).symm | decide | (exfalso; simp only [zi_le, zi_lt, zi_eq, zi_n0, zi_n1, zi_n2, zi_n3, zi_n4, zi_n23, zi_n24, zi_n100, zi_n399, zi_n60, zi_n255, zi_n99, zi_nm1, zi_n30] at *; omega) | (simp_all; done))), ⟨by rw [ht]; exact hP, hD⟩⟩, hS.F ht⟩) hS.2.2 dX1_parsePart_69
        · skip
          exact absurd (by decide) c_21
      · skip
        exact absurd (by decide) c_20
    · skip
      exact absurd c_15 (by decide)
  · skip
    replace e_10 : r_5 = 1 := e_10
    subst e_10
    refine lv_istore_n (lv' := [(1, .int 1), (0, .ref h0)]) hx hb dX1_parsePart_11 rfl hl (by decide) rfl (fun ls hl => ?_)
    refine lv_iload_n hx hb dX1_parsePart_12 rfl (lv_at hl 0 rfl) ?_
    refine lv_iconst (v := (-1)) hx hb dX1_parsePart_13 (by decide) ?_
    refine lv_icmp_ne (tgt := 22) hx hb dX1_parsePart_14 (by decide) (fun c_22 => ?_) (fun c_22 => ?_)
    · skip
      refine lv_aload_n hx hb dX1_parsePart_22 rfl (lv_at hl 1 rfl) ?_
      refine va_get (D := (dC, dI)) (ci := 1) (v := .int 0) (C := RX1) (T := TX1) (N := 9) hx hb hts hi1 hown hK.1 hP 0 rfl rfl 3 (by decide) (hts _ wmt1_121) (fun _ h9 => h9) rfl dX1_parsePart_23 ?_
      refine lv_iconst (v := 1) hx hb dX1_parsePart_26 (by decide) ?_
      refine lv_iadd hx hb dX1_parsePart_27 ?_
      refine z_top (v2 := .int 1) (congrArg Value.int (by decide)) ?_
      refine lv_istore_n (lv' := [(2, .int 1), (1, .int 1), (0, .ref h0)]) hx hb dX1_parsePart_28 rfl hl (by decide) rfl (fun ls hl => ?_)
      refine lv_aload_n hx hb dX1_parsePart_29 rfl (lv_at hl 2 rfl) ?_
      refine lv_iload_n hx hb dX1_parsePart_30 rfl (lv_at hl 0 rfl) ?_
      refine va_put (D := (dC, dI)) (ci := 1) (v := .int 1) (ty := .int) (C := RX1) (T := TX1) (N := 9) hx hb hts hi1 tyX1 tyX1_ok nmX1 hown hK.1 hP hD hS 0 rfl rfl 3 (by decide) (hts _ wmt1_121) (fun _ h9 => h9) rfl (by decide +kernel) rfl rfl (Nat.le_of_ble_eq_true rfl) dX1_parsePart_31 (fun H locs hP hD hS => ?_)
      have hP : va_P (dC, dI) vwCl (zDes k h0 a1 a2 tx sh cm 1 1 ifa iyh iyn ilu) H := hP
      have hD : va_D A (zDes k h0 a1 a2 tx sh cm 1 1 ifa iyh iyn ilu) := hD
      refine lv_aload_n hx hb dX1_parsePart_34 rfl (lv_at hl 2 rfl) ?_
      refine zc_i (w := (zDes k h0 a1 a2 tx sh cm 1 1 ifa iyh iyn ilu)) (wc := (zDes k h0 a1 a2 tx sh cm 1 1 ifa iyh iyn ilu)) (wr := []) (va_runV (As := []) (rest := []) ⟨hx, hb, hml, hown, hts⟩ (c_X1_parseNumber l dC dI k T h0 a1 a2 tx sh cm ifa iyh iyn ilu _ ) (cwV 0 hts (gzV wmt2_0 wmt2_2 wmp1_3 wmt1_6 wmt2_3) rfl rfl rfl (by decide +kernel) ⟨Nat.le_of_ble_eq_true rfl, Nat.le_of_ble_eq_true rfl⟩) (zp_V (ci := 1) (q0 := 0) hK hP hD [0, 1, 2] rfl rfl rfl rfl) rfl rfl hl.1 rfl (lv_room (Nat.le_of_ble_eq_true rfl)) dX1_parsePart_35 ⟨Nat.le_of_ble_eq_true rfl, Nat.le_of_ble_eq_true rfl⟩) hP hD hS hA [0, 1, 2] [] rfl rfl (by decide) (by decide) (fun r_23 u_24 H locs w_25 hP hD hS => ?_)
      have hP : va_P (dC, dI) vwCl (zDes k h0 a1 a2 tx sh cm 1 1 ifa iyh iyn ilu) H := hP.sub [0, 1, 2] rfl
      have hD : va_D A (zDes k h0 a1 a2 tx sh cm 1 1 ifa iyh iyn ilu) := hD.sub [0, 1, 2] (by decide) rfl
      have e_26 := w_25
      replace e_26 : r_23 = (-1) := e_26
      subst e_26
      refine lv_istore_n (lv' := [(3, .int (-1)), (2, .int 1), (1, .int 1), (0, .ref h0)]) hx hb dX1_parsePart_38 rfl hl (by decide) rfl (fun ls hl => ?_)
      refine lv_iload_n hx hb dX1_parsePart_39 rfl (lv_at hl 0 rfl) ?_
      refine lv_bipush (v := 20) hx hb dX1_parsePart_40 (by decide) ?_
      refine lv_icmp_le (tgt := 47) hx hb dX1_parsePart_42 (by decide) (fun c_27 => ?_) (fun c_27 => ?_)
      · skip
        refine lv_iload_n hx hb dX1_parsePart_47 rfl (lv_at hl 0 rfl) ?_
        refine lv_iconst (v := (-1)) hx hb dX1_parsePart_48 (by decide) ?_
        refine lv_icmp_eq (tgt := 65) hx hb dX1_parsePart_49 (by decide) (fun c_28 => ?_) (fun c_28 => ?_)
        · skip
          refine lv_aload_n hx hb dX1_parsePart_65 rfl (lv_at hl 3 rfl) ?_
          refine va_get (D := (dC, dI)) (ci := 1) (v := .int 1) (C := RX1) (T := TX1) (N := 9) hx hb hts hi1 hown hK.1 hP 0 rfl rfl 3 (by decide) (hts _ wmt1_121) (fun _ h9 => h9) rfl dX1_parsePart_66 ?_
          exact W.iret (v := 1) hx hb hr (fun t ht hW => ⟨⟨1, (1), rfl, Or.inr ((by first | assumption | with_reducible rfl | contradiction | exact (if_pos (by repeat' (first | assumption | decide | constructor))).symm | exact (if_neg (fun hh => absurd hh (by assumption))).symm | exact (if_neg (fun hh => absurd hh.1 (by assumption))).symm | exact (if_neg (fun hh => absurd hh.2 (by assumption))).symm | exact (if_neg (fun hh => absurd hh.1.1 (by assumption))).symm | exact (if_neg (fun hh => absurd hh.1.2 (by assumption))).symm | exact (if_neg (fun hh => absurd hh.2.1 (by assumption))).symm | exact (if_neg (fun hh => absurd hh.2.2 (by assumption))).symm | exact (if_neg (fun hh => absurd hh.2.2.1 (by assumption))).symm | exact (if_neg (fun hh => absurd hh.2.2.2 (by assumption))).symm | exact (if_neg (fun hh => absurd hh.2.2.2.1 (by assumption))).symm | exact (if_neg (fun hh => absurd hh.2.2.2.2 (by assumption))).symm | decide | (exfalso; simp only [zi_le, zi_lt, zi_eq, zi_n0, zi_n1, zi_n2, zi_n3, zi_n4, zi_n23, zi_n24, zi_n100, zi_n399, zi_n60, zi_n255, zi_n99, zi_nm1, zi_n30] at *; omega) | (simp_all; done))), ⟨by rw [ht]; exact hP, hD⟩⟩, hS.F ht⟩) hS.2.2 dX1_parsePart_69
        · skip
          exact absurd (by decide) c_28
      · skip
        exact absurd (by decide) c_27
    · skip
      exact absurd c_22 (by decide)
  · skip
    replace e_11 : r_5 = 2 := e_11
    subst e_11
    refine lv_istore_n (lv' := [(1, .int 2), (0, .ref h0)]) hx hb dX1_parsePart_11 rfl hl (by decide) rfl (fun ls hl => ?_)
    refine lv_iload_n hx hb dX1_parsePart_12 rfl (lv_at hl 0 rfl) ?_
    refine lv_iconst (v := (-1)) hx hb dX1_parsePart_13 (by decide) ?_
    refine lv_icmp_ne (tgt := 22) hx hb dX1_parsePart_14 (by decide) (fun c_29 => ?_) (fun c_29 => ?_)
    · skip
      refine lv_aload_n hx hb dX1_parsePart_22 rfl (lv_at hl 1 rfl) ?_
      refine va_get (D := (dC, dI)) (ci := 1) (v := .int 0) (C := RX1) (T := TX1) (N := 9) hx hb hts hi1 hown hK.1 hP 0 rfl rfl 3 (by decide) (hts _ wmt1_121) (fun _ h9 => h9) rfl dX1_parsePart_23 ?_
      refine lv_iconst (v := 1) hx hb dX1_parsePart_26 (by decide) ?_
      refine lv_iadd hx hb dX1_parsePart_27 ?_
      refine z_top (v2 := .int 1) (congrArg Value.int (by decide)) ?_
      refine lv_istore_n (lv' := [(2, .int 1), (1, .int 2), (0, .ref h0)]) hx hb dX1_parsePart_28 rfl hl (by decide) rfl (fun ls hl => ?_)
      refine lv_aload_n hx hb dX1_parsePart_29 rfl (lv_at hl 2 rfl) ?_
      refine lv_iload_n hx hb dX1_parsePart_30 rfl (lv_at hl 0 rfl) ?_
      refine va_put (D := (dC, dI)) (ci := 1) (v := .int 1) (ty := .int) (C := RX1) (T := TX1) (N := 9) hx hb hts hi1 tyX1 tyX1_ok nmX1 hown hK.1 hP hD hS 0 rfl rfl 3 (by decide) (hts _ wmt1_121) (fun _ h9 => h9) rfl (by decide +kernel) rfl rfl (Nat.le_of_ble_eq_true rfl) dX1_parsePart_31 (fun H locs hP hD hS => ?_)
      have hP : va_P (dC, dI) vwCl (zDes k h0 a1 a2 tx sh cm 1 1 ifa iyh iyn ilu) H := hP
      have hD : va_D A (zDes k h0 a1 a2 tx sh cm 1 1 ifa iyh iyn ilu) := hD
      refine lv_aload_n hx hb dX1_parsePart_34 rfl (lv_at hl 2 rfl) ?_
      refine zc_i (w := (zDes k h0 a1 a2 tx sh cm 1 1 ifa iyh iyn ilu)) (wc := (zDes k h0 a1 a2 tx sh cm 1 1 ifa iyh iyn ilu)) (wr := []) (va_runV (As := []) (rest := []) ⟨hx, hb, hml, hown, hts⟩ (c_X1_parseNumber l dC dI k T h0 a1 a2 tx sh cm ifa iyh iyn ilu _ ) (cwV 0 hts (gzV wmt2_0 wmt2_2 wmp1_3 wmt1_6 wmt2_3) rfl rfl rfl (by decide +kernel) ⟨Nat.le_of_ble_eq_true rfl, Nat.le_of_ble_eq_true rfl⟩) (zp_V (ci := 1) (q0 := 0) hK hP hD [0, 1, 2] rfl rfl rfl rfl) rfl rfl hl.1 rfl (lv_room (Nat.le_of_ble_eq_true rfl)) dX1_parsePart_35 ⟨Nat.le_of_ble_eq_true rfl, Nat.le_of_ble_eq_true rfl⟩) hP hD hS hA [0, 1, 2] [] rfl rfl (by decide) (by decide) (fun r_30 u_31 H locs w_32 hP hD hS => ?_)
      have hP : va_P (dC, dI) vwCl (zDes k h0 a1 a2 tx sh cm 1 1 ifa iyh iyn ilu) H := hP.sub [0, 1, 2] rfl
      have hD : va_D A (zDes k h0 a1 a2 tx sh cm 1 1 ifa iyh iyn ilu) := hD.sub [0, 1, 2] (by decide) rfl
      have e_33 := w_32
      replace e_33 : r_30 = (-1) := e_33
      subst e_33
      refine lv_istore_n (lv' := [(3, .int (-1)), (2, .int 1), (1, .int 2), (0, .ref h0)]) hx hb dX1_parsePart_38 rfl hl (by decide) rfl (fun ls hl => ?_)
      refine lv_iload_n hx hb dX1_parsePart_39 rfl (lv_at hl 0 rfl) ?_
      refine lv_bipush (v := 20) hx hb dX1_parsePart_40 (by decide) ?_
      refine lv_icmp_le (tgt := 47) hx hb dX1_parsePart_42 (by decide) (fun c_34 => ?_) (fun c_34 => ?_)
      · skip
        refine lv_iload_n hx hb dX1_parsePart_47 rfl (lv_at hl 0 rfl) ?_
        refine lv_iconst (v := (-1)) hx hb dX1_parsePart_48 (by decide) ?_
        refine lv_icmp_eq (tgt := 65) hx hb dX1_parsePart_49 (by decide) (fun c_35 => ?_) (fun c_35 => ?_)
        · skip
          refine lv_aload_n hx hb dX1_parsePart_65 rfl (lv_at hl 3 rfl) ?_
          refine va_get (D := (dC, dI)) (ci := 1) (v := .int 1) (C := RX1) (T := TX1) (N := 9) hx hb hts hi1 hown hK.1 hP 0 rfl rfl 3 (by decide) (hts _ wmt1_121) (fun _ h9 => h9) rfl dX1_parsePart_66 ?_
          exact W.iret (v := 1) hx hb hr (fun t ht hW => ⟨⟨1, (1), rfl, Or.inr ((by first | assumption | with_reducible rfl | contradiction | exact (if_pos (by repeat' (first | assumption | decide | constructor))).symm | exact (if_neg (fun hh => absurd hh (by assumption))).symm | exact (if_neg (fun hh => absurd hh.1 (by assumption))).symm | exact (if_neg (fun hh => absurd hh.2 (by assumption))).symm | exact (if_neg (fun hh => absurd hh.1.1 (by assumption))).symm | exact (if_neg (fun hh => absurd hh.1.2 (by assumption))).symm | exact (if_neg (fun hh => absurd hh.2.1 (by assumption))).symm | exact (if_neg (fun hh => absurd hh.2.2 (by assumption))).symm | exact (if_neg (fun hh => absurd hh.2.2.1 (by assumption))).symm | exact (if_neg (fun hh => absurd hh.2.2.2 (by assumption))).symm | exact (if_neg (fun hh => absurd hh.2.2.2.1 (by assumption))).symm | exact (if_neg (fun hh => absurd hh.2.2.2.2 (by assumption))).symm | decide | (exfalso; simp only [zi_le, zi_lt, zi_eq, zi_n0, zi_n1, zi_n2, zi_n3, zi_n4, zi_n23, zi_n24, zi_n100, zi_n399, zi_n60, zi_n255, zi_n99, zi_nm1, zi_n30] at *; omega) | (simp_all; done))), ⟨by rw [ht]; exact hP, hD⟩⟩, hS.F ht⟩) hS.2.2 dX1_parsePart_69
        · skip
          exact absurd (by decide) c_35
      · skip
        exact absurd (by decide) c_34
    · skip
      exact absurd c_29 (by decide)
  · skip
    replace e_12 : r_5 = 3 := e_12
    subst e_12
    refine lv_istore_n (lv' := [(1, .int 3), (0, .ref h0)]) hx hb dX1_parsePart_11 rfl hl (by decide) rfl (fun ls hl => ?_)
    refine lv_iload_n hx hb dX1_parsePart_12 rfl (lv_at hl 0 rfl) ?_
    refine lv_iconst (v := (-1)) hx hb dX1_parsePart_13 (by decide) ?_
    refine lv_icmp_ne (tgt := 22) hx hb dX1_parsePart_14 (by decide) (fun c_36 => ?_) (fun c_36 => ?_)
    · skip
      refine lv_aload_n hx hb dX1_parsePart_22 rfl (lv_at hl 1 rfl) ?_
      refine va_get (D := (dC, dI)) (ci := 1) (v := .int 0) (C := RX1) (T := TX1) (N := 9) hx hb hts hi1 hown hK.1 hP 0 rfl rfl 3 (by decide) (hts _ wmt1_121) (fun _ h9 => h9) rfl dX1_parsePart_23 ?_
      refine lv_iconst (v := 1) hx hb dX1_parsePart_26 (by decide) ?_
      refine lv_iadd hx hb dX1_parsePart_27 ?_
      refine z_top (v2 := .int 1) (congrArg Value.int (by decide)) ?_
      refine lv_istore_n (lv' := [(2, .int 1), (1, .int 3), (0, .ref h0)]) hx hb dX1_parsePart_28 rfl hl (by decide) rfl (fun ls hl => ?_)
      refine lv_aload_n hx hb dX1_parsePart_29 rfl (lv_at hl 2 rfl) ?_
      refine lv_iload_n hx hb dX1_parsePart_30 rfl (lv_at hl 0 rfl) ?_
      refine va_put (D := (dC, dI)) (ci := 1) (v := .int 1) (ty := .int) (C := RX1) (T := TX1) (N := 9) hx hb hts hi1 tyX1 tyX1_ok nmX1 hown hK.1 hP hD hS 0 rfl rfl 3 (by decide) (hts _ wmt1_121) (fun _ h9 => h9) rfl (by decide +kernel) rfl rfl (Nat.le_of_ble_eq_true rfl) dX1_parsePart_31 (fun H locs hP hD hS => ?_)
      have hP : va_P (dC, dI) vwCl (zDes k h0 a1 a2 tx sh cm 1 1 ifa iyh iyn ilu) H := hP
      have hD : va_D A (zDes k h0 a1 a2 tx sh cm 1 1 ifa iyh iyn ilu) := hD
      refine lv_aload_n hx hb dX1_parsePart_34 rfl (lv_at hl 2 rfl) ?_
      refine zc_i (w := (zDes k h0 a1 a2 tx sh cm 1 1 ifa iyh iyn ilu)) (wc := (zDes k h0 a1 a2 tx sh cm 1 1 ifa iyh iyn ilu)) (wr := []) (va_runV (As := []) (rest := []) ⟨hx, hb, hml, hown, hts⟩ (c_X1_parseNumber l dC dI k T h0 a1 a2 tx sh cm ifa iyh iyn ilu _ ) (cwV 0 hts (gzV wmt2_0 wmt2_2 wmp1_3 wmt1_6 wmt2_3) rfl rfl rfl (by decide +kernel) ⟨Nat.le_of_ble_eq_true rfl, Nat.le_of_ble_eq_true rfl⟩) (zp_V (ci := 1) (q0 := 0) hK hP hD [0, 1, 2] rfl rfl rfl rfl) rfl rfl hl.1 rfl (lv_room (Nat.le_of_ble_eq_true rfl)) dX1_parsePart_35 ⟨Nat.le_of_ble_eq_true rfl, Nat.le_of_ble_eq_true rfl⟩) hP hD hS hA [0, 1, 2] [] rfl rfl (by decide) (by decide) (fun r_37 u_38 H locs w_39 hP hD hS => ?_)
      have hP : va_P (dC, dI) vwCl (zDes k h0 a1 a2 tx sh cm 1 1 ifa iyh iyn ilu) H := hP.sub [0, 1, 2] rfl
      have hD : va_D A (zDes k h0 a1 a2 tx sh cm 1 1 ifa iyh iyn ilu) := hD.sub [0, 1, 2] (by decide) rfl
      have e_40 := w_39
      replace e_40 : r_37 = (-1) := e_40
      subst e_40
      refine lv_istore_n (lv' := [(3, .int (-1)), (2, .int 1), (1, .int 3), (0, .ref h0)]) hx hb dX1_parsePart_38 rfl hl (by decide) rfl (fun ls hl => ?_)
      refine lv_iload_n hx hb dX1_parsePart_39 rfl (lv_at hl 0 rfl) ?_
      refine lv_bipush (v := 20) hx hb dX1_parsePart_40 (by decide) ?_
      refine lv_icmp_le (tgt := 47) hx hb dX1_parsePart_42 (by decide) (fun c_41 => ?_) (fun c_41 => ?_)
      · skip
        refine lv_iload_n hx hb dX1_parsePart_47 rfl (lv_at hl 0 rfl) ?_
        refine lv_iconst (v := (-1)) hx hb dX1_parsePart_48 (by decide) ?_
        refine lv_icmp_eq (tgt := 65) hx hb dX1_parsePart_49 (by decide) (fun c_42 => ?_) (fun c_42 => ?_)
        · skip
          refine lv_aload_n hx hb dX1_parsePart_65 rfl (lv_at hl 3 rfl) ?_
          refine va_get (D := (dC, dI)) (ci := 1) (v := .int 1) (C := RX1) (T := TX1) (N := 9) hx hb hts hi1 hown hK.1 hP 0 rfl rfl 3 (by decide) (hts _ wmt1_121) (fun _ h9 => h9) rfl dX1_parsePart_66 ?_
          exact W.iret (v := 1) hx hb hr (fun t ht hW => ⟨⟨1, (1), rfl, Or.inr ((by first | assumption | with_reducible rfl | contradiction | exact (if_pos (by repeat' (first | assumption | decide | constructor))).symm | exact (if_neg (fun hh => absurd hh (by assumption))).symm | exact (if_neg (fun hh => absurd hh.1 (by assumption))).symm | exact (if_neg (fun hh => absurd hh.2 (by assumption))).symm | exact (if_neg (fun hh => absurd hh.1.1 (by assumption))).symm | exact (if_neg (fun hh => absurd hh.1.2 (by assumption))).symm | exact (if_neg (fun hh => absurd hh.2.1 (by assumption))).symm | exact (if_neg (fun hh => absurd hh.2.2 (by assumption))).symm | exact (if_neg (fun hh => absurd hh.2.2.1 (by assumption))).symm | exact (if_neg (fun hh => absurd hh.2.2.2 (by assumption))).symm | exact (if_neg (fun hh => absurd hh.2.2.2.1 (by assumption))).symm | exact (if_neg (fun hh => absurd hh.2.2.2.2 (by assumption))).symm | decide | (exfalso; simp only [zi_le, zi_lt, zi_eq, zi_n0, zi_n1, zi_n2, zi_n3, zi_n4, zi_n23, zi_n24, zi_n100, zi_n399, zi_n60, zi_n255, zi_n99, zi_nm1, zi_n30] at *; omega) | (simp_all; done))), ⟨by rw [ht]; exact hP, hD⟩⟩, hS.F ht⟩) hS.2.2 dX1_parsePart_69
        · skip
          exact absurd (by decide) c_42
      · skip
        exact absurd (by decide) c_41
    · skip
      exact absurd c_36 (by decide)
  · skip
    replace e_13 : r_5 = 4 := e_13
    subst e_13
    refine lv_istore_n (lv' := [(1, .int 4), (0, .ref h0)]) hx hb dX1_parsePart_11 rfl hl (by decide) rfl (fun ls hl => ?_)
    refine lv_iload_n hx hb dX1_parsePart_12 rfl (lv_at hl 0 rfl) ?_
    refine lv_iconst (v := (-1)) hx hb dX1_parsePart_13 (by decide) ?_
    refine lv_icmp_ne (tgt := 22) hx hb dX1_parsePart_14 (by decide) (fun c_43 => ?_) (fun c_43 => ?_)
    · skip
      refine lv_aload_n hx hb dX1_parsePart_22 rfl (lv_at hl 1 rfl) ?_
      refine va_get (D := (dC, dI)) (ci := 1) (v := .int 0) (C := RX1) (T := TX1) (N := 9) hx hb hts hi1 hown hK.1 hP 0 rfl rfl 3 (by decide) (hts _ wmt1_121) (fun _ h9 => h9) rfl dX1_parsePart_23 ?_
      refine lv_iconst (v := 1) hx hb dX1_parsePart_26 (by decide) ?_
      refine lv_iadd hx hb dX1_parsePart_27 ?_
      refine z_top (v2 := .int 1) (congrArg Value.int (by decide)) ?_
      refine lv_istore_n (lv' := [(2, .int 1), (1, .int 4), (0, .ref h0)]) hx hb dX1_parsePart_28 rfl hl (by decide) rfl (fun ls hl => ?_)
      refine lv_aload_n hx hb dX1_parsePart_29 rfl (lv_at hl 2 rfl) ?_
      refine lv_iload_n hx hb dX1_parsePart_30 rfl (lv_at hl 0 rfl) ?_
      refine va_put (D := (dC, dI)) (ci := 1) (v := .int 1) (ty := .int) (C := RX1) (T := TX1) (N := 9) hx hb hts hi1 tyX1 tyX1_ok nmX1 hown hK.1 hP hD hS 0 rfl rfl 3 (by decide) (hts _ wmt1_121) (fun _ h9 => h9) rfl (by decide +kernel) rfl rfl (Nat.le_of_ble_eq_true rfl) dX1_parsePart_31 (fun H locs hP hD hS => ?_)
      have hP : va_P (dC, dI) vwCl (zDes k h0 a1 a2 tx sh cm 1 1 ifa iyh iyn ilu) H := hP
      have hD : va_D A (zDes k h0 a1 a2 tx sh cm 1 1 ifa iyh iyn ilu) := hD
      refine lv_aload_n hx hb dX1_parsePart_34 rfl (lv_at hl 2 rfl) ?_
      refine zc_i (w := (zDes k h0 a1 a2 tx sh cm 1 1 ifa iyh iyn ilu)) (wc := (zDes k h0 a1 a2 tx sh cm 1 1 ifa iyh iyn ilu)) (wr := []) (va_runV (As := []) (rest := []) ⟨hx, hb, hml, hown, hts⟩ (c_X1_parseNumber l dC dI k T h0 a1 a2 tx sh cm ifa iyh iyn ilu _ ) (cwV 0 hts (gzV wmt2_0 wmt2_2 wmp1_3 wmt1_6 wmt2_3) rfl rfl rfl (by decide +kernel) ⟨Nat.le_of_ble_eq_true rfl, Nat.le_of_ble_eq_true rfl⟩) (zp_V (ci := 1) (q0 := 0) hK hP hD [0, 1, 2] rfl rfl rfl rfl) rfl rfl hl.1 rfl (lv_room (Nat.le_of_ble_eq_true rfl)) dX1_parsePart_35 ⟨Nat.le_of_ble_eq_true rfl, Nat.le_of_ble_eq_true rfl⟩) hP hD hS hA [0, 1, 2] [] rfl rfl (by decide) (by decide) (fun r_44 u_45 H locs w_46 hP hD hS => ?_)
      have hP : va_P (dC, dI) vwCl (zDes k h0 a1 a2 tx sh cm 1 1 ifa iyh iyn ilu) H := hP.sub [0, 1, 2] rfl
      have hD : va_D A (zDes k h0 a1 a2 tx sh cm 1 1 ifa iyh iyn ilu) := hD.sub [0, 1, 2] (by decide) rfl
      have e_47 := w_46
      replace e_47 : r_44 = (-1) := e_47
      subst e_47
      refine lv_istore_n (lv' := [(3, .int (-1)), (2, .int 1), (1, .int 4), (0, .ref h0)]) hx hb dX1_parsePart_38 rfl hl (by decide) rfl (fun ls hl => ?_)
      refine lv_iload_n hx hb dX1_parsePart_39 rfl (lv_at hl 0 rfl) ?_
      refine lv_bipush (v := 20) hx hb dX1_parsePart_40 (by decide) ?_
      refine lv_icmp_le (tgt := 47) hx hb dX1_parsePart_42 (by decide) (fun c_48 => ?_) (fun c_48 => ?_)
      · skip
        refine lv_iload_n hx hb dX1_parsePart_47 rfl (lv_at hl 0 rfl) ?_
        refine lv_iconst (v := (-1)) hx hb dX1_parsePart_48 (by decide) ?_
        refine lv_icmp_eq (tgt := 65) hx hb dX1_parsePart_49 (by decide) (fun c_49 => ?_) (fun c_49 => ?_)
        · skip
          refine lv_aload_n hx hb dX1_parsePart_65 rfl (lv_at hl 3 rfl) ?_
          refine va_get (D := (dC, dI)) (ci := 1) (v := .int 1) (C := RX1) (T := TX1) (N := 9) hx hb hts hi1 hown hK.1 hP 0 rfl rfl 3 (by decide) (hts _ wmt1_121) (fun _ h9 => h9) rfl dX1_parsePart_66 ?_
          exact W.iret (v := 1) hx hb hr (fun t ht hW => ⟨⟨1, (1), rfl, Or.inr ((by first | assumption | with_reducible rfl | contradiction | exact (if_pos (by repeat' (first | assumption | decide | constructor))).symm | exact (if_neg (fun hh => absurd hh (by assumption))).symm | exact (if_neg (fun hh => absurd hh.1 (by assumption))).symm | exact (if_neg (fun hh => absurd hh.2 (by assumption))).symm | exact (if_neg (fun hh => absurd hh.1.1 (by assumption))).symm | exact (if_neg (fun hh => absurd hh.1.2 (by assumption))).symm | exact (if_neg (fun hh => absurd hh.2.1 (by assumption))).symm | exact (if_neg (fun hh => absurd hh.2.2 (by assumption))).symm | exact (if_neg (fun hh => absurd hh.2.2.1 (by assumption))).symm | exact (if_neg (fun hh => absurd hh.2.2.2 (by assumption))).symm | exact (if_neg (fun hh => absurd hh.2.2.2.1 (by assumption))).symm | exact (if_neg (fun hh => absurd hh.2.2.2.2 (by assumption))).symm | decide | (exfalso; simp only [zi_le, zi_lt, zi_eq, zi_n0, zi_n1, zi_n2, zi_n3, zi_n4, zi_n23, zi_n24, zi_n100, zi_n399, zi_n60, zi_n255, zi_n99, zi_nm1, zi_n30] at *; omega) | (simp_all; done))), ⟨by rw [ht]; exact hP, hD⟩⟩, hS.F ht⟩) hS.2.2 dX1_parsePart_69
        · skip
          exact absurd (by decide) c_49
      · skip
        exact absurd (by decide) c_48
    · skip
      exact absurd c_43 (by decide)
set_option maxHeartbeats 4000000 in
set_option maxRecDepth 100000 in
theorem c_X1_parse_e (l : Launch) (dC : Nat → ClassId) (dI : Nat → Nat → Nat) (k : Nat → ClassId) (T : List (ClassId × FieldType)) (h0 : Nat) (a1 : Nat) (a2 : Nat) (tx : Nat → Int32) (sh : Nat → Int64) (cm : Int64) (ia : Int32) (ifa : Int32) (iyh : Int32) (iyn : Int32) (ilu : Int32) (sz : Nat)  : Met l yX1_parse (wz yX1_parse cX1_parse 3 (some .int)) ({ frames := 2, cells := 0, slots := 0, locals := 48 }) (va_Pc [.ref h0] (zPre dC dI k T (zDes k h0 a1 a2 tx sh cm ia 0 ifa iyh iyn ilu) sz)) (va_Qi (fun (r : Int32) (u : (Nat → Int64) × Int64 × Int32) => r = 0) (fun u t => zPost dC dI (va_A (zDes k h0 a1 a2 tx sh cm ia 0 ifa iyh iyn ilu) sz) (zDes k h0 a1 a2 tx u.1 u.2.1 u.2.2 0 ifa iyh iyn ilu) t) (va_A (zDes k h0 a1 a2 tx sh cm ia 0 ifa iyh iyn ilu) sz)) 0 0 (va_A (zDes k h0 a1 a2 tx sh cm ia 0 ifa iyh iyn ilu) sz) := by
  refine Met.ofW (cc := cX1_parse) (maxL := 3) (ret := (some .int)) (by decide) rfl ?_
  intro p e s m args below meth c s₁ B hml hv
  obtain ⟨rfl, hsz, hP, hK, hD0⟩ := hv
  have hx := B.exec
  have hb := B.bytes
  have hr := B.returns
  have hts : ∀ w ∈ zw, w.before _ s = true := fun w h => atoms_spec (ws := (wz yX1_parse cX1_parse 3 (some .int))) B.pre w (List.mem_cons_of_mem _ h)
  have hown : s.vm.findClass RX1 = some m.cls := findClass_of_methodNamed B.named
  have hlocks := B.notSynchronized
  subst hsz
  have hi1 := inw1
  have hD := hD0.self (sz := s.heap.size)
  generalize hAe : va_A (zDes k h0 a1 a2 tx sh cm ia 0 ifa iyh iyn ilu) s.heap.size = A at hD ⊢
  have hA : ∀ q : Nat, s.heap.size ≤ q → A q := fun q h => by rw [← hAe]; exact Or.inr h
  have hl := lv_entry ([.ref h0]) (n := 3) (Nat.le_of_ble_eq_true rfl)
  rw [lg_entry_eq]
  generalize (lg_sl ([.ref h0]) ++ List.replicate (3 - (lg_sl ([.ref h0])).length) Slot.unset).toArray = ls at hl ⊢
  have hl : lv_has ls 3 [(0, .ref h0)] := hl
  refine z_start (w := (zDes k h0 a1 a2 tx sh cm ia 0 ifa iyh iyn ilu)) hP hD (fun H locs hP hD hS => ?_)
  refine lv_aload_n hx hb dX1_parse_0 rfl (lv_at hl 0 rfl) ?_
  refine va_get (D := (dC, dI)) (ci := 1) (v := .ref a2) (C := RX1) (T := TX1) (N := 9) hx hb hts hi1 hown hK.1 hP 0 rfl rfl 1 (by decide) (hts _ wmt1_119) (fun _ h9 => h9) rfl dX1_parse_1 ?_
  refine lv_lconst (v := 0) hx hb dX1_parse_4 (by decide) ?_
  refine zc_v (w := (zDes k h0 a1 a2 tx sh cm ia 0 ifa iyh iyn ilu)) (wc := [(a2, .inl (k 1, 5, .inr (.inl sh)))]) (wr := ([0, 1].filterMap (fun i => (zDes k h0 a1 a2 tx sh cm ia 0 ifa iyh iyn ilu)[i]?))) (va_runS (As := [.ref a2, .long 0]) (rest := []) ⟨hx, hb, hml, hown, hts⟩ (c_J7_fill_d0a16_5 l dC dI k T a2 sh _ ) (va_cwS 2 hts (gzS wmt1_226 wmt1_227 wmt1_9 wmt1_228) rfl rfl rfl (by decide +kernel) ⟨Nat.le_of_ble_eq_true rfl, Nat.le_of_ble_eq_true rfl⟩) (zp_S hK hP hD [2] rfl rfl) rfl rfl hl.1 rfl (lv_room (Nat.le_of_ble_eq_true rfl)) dX1_parse_5 ⟨Nat.le_of_ble_eq_true rfl, Nat.le_of_ble_eq_true rfl⟩) hP hD hS hA [2] [0, 1] rfl rfl (by decide) (by decide) (fun u_2 H locs w_3 hP hD hS => ?_)
  obtain ⟨of_4, rfl⟩ : ∃ z, z = u_2 := ⟨_, rfl⟩
  have hP : va_P (dC, dI) vwCl (zDes k h0 a1 a2 tx of_4 cm ia 0 ifa iyh iyn ilu) H := hP.sub [0, 1, 2] rfl
  have hD : va_D A (zDes k h0 a1 a2 tx of_4 cm ia 0 ifa iyh iyn ilu) := hD.sub [0, 1, 2] (by decide) rfl
  refine lv_aload_n hx hb dX1_parse_8 rfl (lv_at hl 0 rfl) ?_
  refine lv_ldc2 (v := 232792560) hx hb hown (hts _ wmt1_117) dX1_parse_9 ?_
  refine va_put (D := (dC, dI)) (ci := 1) (v := .long 232792560) (ty := .long) (C := RX1) (T := TX1) (N := 9) hx hb hts hi1 tyX1 tyX1_ok nmX1 hown hK.1 hP hD hS 0 rfl rfl 2 (by decide) (hts _ wmt1_120) (fun _ h9 => h9) rfl (by decide +kernel) rfl rfl (Nat.le_of_ble_eq_true rfl) dX1_parse_12 (fun H locs hP hD hS => ?_)
  have hP : va_P (dC, dI) vwCl (zDes k h0 a1 a2 tx of_4 232792560 ia 0 ifa iyh iyn ilu) H := hP
  have hD : va_D A (zDes k h0 a1 a2 tx of_4 232792560 ia 0 ifa iyh iyn ilu) := hD
  refine lv_aload_n hx hb dX1_parse_15 rfl (lv_at hl 0 rfl) ?_
  refine lv_iconst (v := 0) hx hb dX1_parse_16 (by decide) ?_
  refine va_put (D := (dC, dI)) (ci := 1) (v := .int 0) (ty := .int) (C := RX1) (T := TX1) (N := 9) hx hb hts hi1 tyX1 tyX1_ok nmX1 hown hK.1 hP hD hS 0 rfl rfl 3 (by decide) (hts _ wmt1_121) (fun _ h9 => h9) rfl (by decide +kernel) rfl rfl (Nat.le_of_ble_eq_true rfl) dX1_parse_17 (fun H locs hP hD hS => ?_)
  have hP : va_P (dC, dI) vwCl (zDes k h0 a1 a2 tx of_4 232792560 0 0 ifa iyh iyn ilu) H := hP
  have hD : va_D A (zDes k h0 a1 a2 tx of_4 232792560 0 0 ifa iyh iyn ilu) := hD
  refine lv_iconst (v := 0) hx hb dX1_parse_20 (by decide) ?_
  refine lv_istore_n (lv' := [(1, .int 0), (0, .ref h0)]) hx hb dX1_parse_21 rfl hl (by decide) rfl (fun ls hl => ?_)
  refine lv_iload_n hx hb dX1_parse_22 rfl (lv_at hl 0 rfl) ?_
  refine lv_bipush (v := 60) hx hb dX1_parse_23 (by decide) ?_
  refine lv_icmp_ge (tgt := 90) hx hb dX1_parse_25 (by decide) (fun c_5 => ?_) (fun c_5 => ?_)
  · skip
    exact absurd c_5 (by decide)
  · skip
    refine lv_aload_n hx hb dX1_parse_28 rfl (lv_at hl 1 rfl) ?_
    refine zc_i (w := (zDes k h0 a1 a2 tx of_4 232792560 0 0 ifa iyh iyn ilu)) (wc := (zDes k h0 a1 a2 tx of_4 232792560 0 0 ifa iyh iyn ilu)) (wr := []) (va_runV (As := []) (rest := []) ⟨hx, hb, hml, hown, hts⟩ (c_X1_parsePart_e l dC dI k T h0 a1 a2 tx of_4 232792560 ifa iyh iyn ilu _ ) (cwV 0 hts (gzV wmt1_229 wmt1_231 wmp1_1 wmt1_6 wmt1_232) rfl rfl rfl (by decide +kernel) ⟨Nat.le_of_ble_eq_true rfl, Nat.le_of_ble_eq_true rfl⟩) (zp_V (ci := 1) (q0 := 0) hK hP hD [0, 1, 2] rfl rfl rfl rfl) rfl rfl hl.1 rfl (lv_room (Nat.le_of_ble_eq_true rfl)) dX1_parse_29 ⟨Nat.le_of_ble_eq_true rfl, Nat.le_of_ble_eq_true rfl⟩) hP hD hS hA [0, 1, 2] [] rfl rfl (by decide) (by decide) (fun r_6 u_7 H locs w_8 hP hD hS => ?_)
    have hP : va_P (dC, dI) vwCl (zDes k h0 a1 a2 tx of_4 232792560 0 0 ifa iyh iyn ilu) H := hP.sub [0, 1, 2] rfl
    have hD : va_D A (zDes k h0 a1 a2 tx of_4 232792560 0 0 ifa iyh iyn ilu) := hD.sub [0, 1, 2] (by decide) rfl
    have e_9 := w_8
    replace e_9 : r_6 = 0 := e_9
    subst e_9
    refine lv_istore_n (lv' := [(2, .int 0), (1, .int 0), (0, .ref h0)]) hx hb dX1_parse_32 rfl hl (by decide) rfl (fun ls hl => ?_)
    refine lv_iload_n hx hb dX1_parse_33 rfl (lv_at hl 0 rfl) ?_
    refine lv_iconst (v := (-1)) hx hb dX1_parse_34 (by decide) ?_
    refine lv_icmp_eq (tgt := 40) hx hb dX1_parse_35 (by decide) (fun c_10 => ?_) (fun c_10 => ?_)
    · skip
      exact absurd c_10 (by decide)
    · skip
      refine lv_iload_n hx hb dX1_parse_38 rfl (lv_at hl 0 rfl) ?_
      exact W.iret (v := 0) hx hb hr (fun t ht hW => ⟨⟨0, (of_4, 232792560, 0), rfl, (by first | assumption | with_reducible rfl | contradiction | exact (if_pos (by repeat' (first | assumption | decide | constructor))).symm | exact (if_neg (fun hh => absurd hh (by assumption))).symm | exact (if_neg (fun hh => absurd hh.1 (by assumption))).symm | exact (if_neg (fun hh => absurd hh.2 (by assumption))).symm | exact (if_neg (fun hh => absurd hh.1.1 (by assumption))).symm | exact (if_neg (fun hh => absurd hh.1.2 (by assumption))).symm | exact (if_neg (fun hh => absurd hh.2.1 (by assumption))).symm | exact (if_neg (fun hh => absurd hh.2.2 (by assumption))).symm | exact (if_neg (fun hh => absurd hh.2.2.1 (by assumption))).symm | exact (if_neg (fun hh => absurd hh.2.2.2 (by assumption))).symm | exact (if_neg (fun hh => absurd hh.2.2.2.1 (by assumption))).symm | exact (if_neg (fun hh => absurd hh.2.2.2.2 (by assumption))).symm | decide | (exfalso; simp only [zi_le, zi_lt, zi_eq, zi_n0, zi_n1, zi_n2, zi_n3, zi_n4, zi_n23, zi_n24, zi_n100, zi_n399, zi_n60, zi_n255, zi_n99, zi_nm1, zi_n30] at *; omega) | (simp_all; done)), ⟨by rw [ht]; exact hP, hD⟩⟩, hS.F ht⟩) hS.2.2 dX1_parse_39
set_option maxHeartbeats 4000000 in
set_option maxRecDepth 100000 in
theorem c_X1_parse_1 (l : Launch) (dC : Nat → ClassId) (dI : Nat → Nat → Nat) (k : Nat → ClassId) (T : List (ClassId × FieldType)) (h0 : Nat) (a1 : Nat) (a2 : Nat) (tx : Nat → Int32) (sh : Nat → Int64) (cm : Int64) (ia : Int32) (ifa : Int32) (iyh : Int32) (iyn : Int32) (ilu : Int32) (sz : Nat)  : Met l yX1_parse (wz yX1_parse cX1_parse 3 (some .int)) ({ frames := 4, cells := 0, slots := 0, locals := 92 }) (va_Pc [.ref h0] (zPre dC dI k T (zDes k h0 a1 a2 tx sh cm ia 1 ifa iyh iyn ilu) sz)) (va_Qi (fun (r : Int32) (u : (Nat → Int64) × Int64 × Int32) => (r = 0) ∨ (r = 1)) (fun u t => zPost dC dI (va_A (zDes k h0 a1 a2 tx sh cm ia 1 ifa iyh iyn ilu) sz) (zDes k h0 a1 a2 tx u.1 u.2.1 u.2.2 1 ifa iyh iyn ilu) t) (va_A (zDes k h0 a1 a2 tx sh cm ia 1 ifa iyh iyn ilu) sz)) 0 0 (va_A (zDes k h0 a1 a2 tx sh cm ia 1 ifa iyh iyn ilu) sz) := by
  refine Met.ofW (cc := cX1_parse) (maxL := 3) (ret := (some .int)) (by decide) rfl ?_
  intro p e s m args below meth c s₁ B hml hv
  obtain ⟨rfl, hsz, hP, hK, hD0⟩ := hv
  have hx := B.exec
  have hb := B.bytes
  have hr := B.returns
  have hts : ∀ w ∈ zw, w.before _ s = true := fun w h => atoms_spec (ws := (wz yX1_parse cX1_parse 3 (some .int))) B.pre w (List.mem_cons_of_mem _ h)
  have hown : s.vm.findClass RX1 = some m.cls := findClass_of_methodNamed B.named
  have hlocks := B.notSynchronized
  subst hsz
  have hi1 := inw1
  have hD := hD0.self (sz := s.heap.size)
  generalize hAe : va_A (zDes k h0 a1 a2 tx sh cm ia 1 ifa iyh iyn ilu) s.heap.size = A at hD ⊢
  have hA : ∀ q : Nat, s.heap.size ≤ q → A q := fun q h => by rw [← hAe]; exact Or.inr h
  have hl := lv_entry ([.ref h0]) (n := 3) (Nat.le_of_ble_eq_true rfl)
  rw [lg_entry_eq]
  generalize (lg_sl ([.ref h0]) ++ List.replicate (3 - (lg_sl ([.ref h0])).length) Slot.unset).toArray = ls at hl ⊢
  have hl : lv_has ls 3 [(0, .ref h0)] := hl
  refine z_start (w := (zDes k h0 a1 a2 tx sh cm ia 1 ifa iyh iyn ilu)) hP hD (fun H locs hP hD hS => ?_)
  refine lv_aload_n hx hb dX1_parse_0 rfl (lv_at hl 0 rfl) ?_
  refine va_get (D := (dC, dI)) (ci := 1) (v := .ref a2) (C := RX1) (T := TX1) (N := 9) hx hb hts hi1 hown hK.1 hP 0 rfl rfl 1 (by decide) (hts _ wmt1_119) (fun _ h9 => h9) rfl dX1_parse_1 ?_
  refine lv_lconst (v := 0) hx hb dX1_parse_4 (by decide) ?_
  refine zc_v (w := (zDes k h0 a1 a2 tx sh cm ia 1 ifa iyh iyn ilu)) (wc := [(a2, .inl (k 1, 5, .inr (.inl sh)))]) (wr := ([0, 1].filterMap (fun i => (zDes k h0 a1 a2 tx sh cm ia 1 ifa iyh iyn ilu)[i]?))) (va_runS (As := [.ref a2, .long 0]) (rest := []) ⟨hx, hb, hml, hown, hts⟩ (c_J7_fill_d0a16_5 l dC dI k T a2 sh _ ) (va_cwS 2 hts (gzS wmt1_226 wmt1_227 wmt1_9 wmt1_228) rfl rfl rfl (by decide +kernel) ⟨Nat.le_of_ble_eq_true rfl, Nat.le_of_ble_eq_true rfl⟩) (zp_S hK hP hD [2] rfl rfl) rfl rfl hl.1 rfl (lv_room (Nat.le_of_ble_eq_true rfl)) dX1_parse_5 ⟨Nat.le_of_ble_eq_true rfl, Nat.le_of_ble_eq_true rfl⟩) hP hD hS hA [2] [0, 1] rfl rfl (by decide) (by decide) (fun u_2 H locs w_3 hP hD hS => ?_)
  obtain ⟨of_4, rfl⟩ : ∃ z, z = u_2 := ⟨_, rfl⟩
  have hP : va_P (dC, dI) vwCl (zDes k h0 a1 a2 tx of_4 cm ia 1 ifa iyh iyn ilu) H := hP.sub [0, 1, 2] rfl
  have hD : va_D A (zDes k h0 a1 a2 tx of_4 cm ia 1 ifa iyh iyn ilu) := hD.sub [0, 1, 2] (by decide) rfl
  refine lv_aload_n hx hb dX1_parse_8 rfl (lv_at hl 0 rfl) ?_
  refine lv_ldc2 (v := 232792560) hx hb hown (hts _ wmt1_117) dX1_parse_9 ?_
  refine va_put (D := (dC, dI)) (ci := 1) (v := .long 232792560) (ty := .long) (C := RX1) (T := TX1) (N := 9) hx hb hts hi1 tyX1 tyX1_ok nmX1 hown hK.1 hP hD hS 0 rfl rfl 2 (by decide) (hts _ wmt1_120) (fun _ h9 => h9) rfl (by decide +kernel) rfl rfl (Nat.le_of_ble_eq_true rfl) dX1_parse_12 (fun H locs hP hD hS => ?_)
  have hP : va_P (dC, dI) vwCl (zDes k h0 a1 a2 tx of_4 232792560 ia 1 ifa iyh iyn ilu) H := hP
  have hD : va_D A (zDes k h0 a1 a2 tx of_4 232792560 ia 1 ifa iyh iyn ilu) := hD
  refine lv_aload_n hx hb dX1_parse_15 rfl (lv_at hl 0 rfl) ?_
  refine lv_iconst (v := 0) hx hb dX1_parse_16 (by decide) ?_
  refine va_put (D := (dC, dI)) (ci := 1) (v := .int 0) (ty := .int) (C := RX1) (T := TX1) (N := 9) hx hb hts hi1 tyX1 tyX1_ok nmX1 hown hK.1 hP hD hS 0 rfl rfl 3 (by decide) (hts _ wmt1_121) (fun _ h9 => h9) rfl (by decide +kernel) rfl rfl (Nat.le_of_ble_eq_true rfl) dX1_parse_17 (fun H locs hP hD hS => ?_)
  have hP : va_P (dC, dI) vwCl (zDes k h0 a1 a2 tx of_4 232792560 0 1 ifa iyh iyn ilu) H := hP
  have hD : va_D A (zDes k h0 a1 a2 tx of_4 232792560 0 1 ifa iyh iyn ilu) := hD
  refine lv_iconst (v := 0) hx hb dX1_parse_20 (by decide) ?_
  refine lv_istore_n (lv' := [(1, .int 0), (0, .ref h0)]) hx hb dX1_parse_21 rfl hl (by decide) rfl (fun ls hl => ?_)
  refine lv_iload_n hx hb dX1_parse_22 rfl (lv_at hl 0 rfl) ?_
  refine lv_bipush (v := 60) hx hb dX1_parse_23 (by decide) ?_
  refine lv_icmp_ge (tgt := 90) hx hb dX1_parse_25 (by decide) (fun c_5 => ?_) (fun c_5 => ?_)
  · skip
    exact absurd c_5 (by decide)
  · skip
    refine lv_aload_n hx hb dX1_parse_28 rfl (lv_at hl 1 rfl) ?_
    refine zc_i (w := (zDes k h0 a1 a2 tx of_4 232792560 0 1 ifa iyh iyn ilu)) (wc := (zDes k h0 a1 a2 tx of_4 232792560 0 1 ifa iyh iyn ilu)) (wr := []) (va_runV (As := []) (rest := []) ⟨hx, hb, hml, hown, hts⟩ (c_X1_parsePart_1 l dC dI k T h0 a1 a2 tx of_4 232792560 ifa iyh iyn ilu _ ) (cwV 0 hts (gzV wmt1_229 wmt1_231 wmp1_1 wmt1_6 wmt1_232) rfl rfl rfl (by decide +kernel) ⟨Nat.le_of_ble_eq_true rfl, Nat.le_of_ble_eq_true rfl⟩) (zp_V (ci := 1) (q0 := 0) hK hP hD [0, 1, 2] rfl rfl rfl rfl) rfl rfl hl.1 rfl (lv_room (Nat.le_of_ble_eq_true rfl)) dX1_parse_29 ⟨Nat.le_of_ble_eq_true rfl, Nat.le_of_ble_eq_true rfl⟩) hP hD hS hA [0, 1, 2] [] rfl rfl (by decide) (by decide) (fun r_6 u_7 H locs w_8 hP hD hS => ?_)
    obtain ⟨oia_9, rfl⟩ : ∃ z, z = u_7 := ⟨_, rfl⟩
    have hP : va_P (dC, dI) vwCl (zDes k h0 a1 a2 tx of_4 232792560 oia_9 1 ifa iyh iyn ilu) H := hP.sub [0, 1, 2] rfl
    have hD : va_D A (zDes k h0 a1 a2 tx of_4 232792560 oia_9 1 ifa iyh iyn ilu) := hD.sub [0, 1, 2] (by decide) rfl
    rcases w_8 with e_10 | e_11
    · skip
      replace e_10 : r_6 = 0 := e_10
      subst e_10
      refine lv_istore_n (lv' := [(2, .int 0), (1, .int 0), (0, .ref h0)]) hx hb dX1_parse_32 rfl hl (by decide) rfl (fun ls hl => ?_)
      refine lv_iload_n hx hb dX1_parse_33 rfl (lv_at hl 0 rfl) ?_
      refine lv_iconst (v := (-1)) hx hb dX1_parse_34 (by decide) ?_
      refine lv_icmp_eq (tgt := 40) hx hb dX1_parse_35 (by decide) (fun c_12 => ?_) (fun c_12 => ?_)
      · skip
        exact absurd c_12 (by decide)
      · skip
        refine lv_iload_n hx hb dX1_parse_38 rfl (lv_at hl 0 rfl) ?_
        exact W.iret (v := 0) hx hb hr (fun t ht hW => ⟨⟨0, (of_4, 232792560, oia_9), rfl, Or.inl (by first | assumption | with_reducible rfl | contradiction | exact (if_pos (by repeat' (first | assumption | decide | constructor))).symm | exact (if_neg (fun hh => absurd hh (by assumption))).symm | exact (if_neg (fun hh => absurd hh.1 (by assumption))).symm | exact (if_neg (fun hh => absurd hh.2 (by assumption))).symm | exact (if_neg (fun hh => absurd hh.1.1 (by assumption))).symm | exact (if_neg (fun hh => absurd hh.1.2 (by assumption))).symm | exact (if_neg (fun hh => absurd hh.2.1 (by assumption))).symm | exact (if_neg (fun hh => absurd hh.2.2 (by assumption))).symm | exact (if_neg (fun hh => absurd hh.2.2.1 (by assumption))).symm | exact (if_neg (fun hh => absurd hh.2.2.2 (by assumption))).symm | exact (if_neg (fun hh => absurd hh.2.2.2.1 (by assumption))).symm | exact (if_neg (fun hh => absurd hh.2.2.2.2 (by assumption))).symm | decide | (exfalso; simp only [zi_le, zi_lt, zi_eq, zi_n0, zi_n1, zi_n2, zi_n3, zi_n4, zi_n23, zi_n24, zi_n100, zi_n399, zi_n60, zi_n255, zi_n99, zi_nm1, zi_n30] at *; omega) | (simp_all; done)), ⟨by rw [ht]; exact hP, hD⟩⟩, hS.F ht⟩) hS.2.2 dX1_parse_39
    · skip
      replace e_11 : r_6 = 1 := e_11
      subst e_11
      refine lv_istore_n (lv' := [(2, .int 1), (1, .int 0), (0, .ref h0)]) hx hb dX1_parse_32 rfl hl (by decide) rfl (fun ls hl => ?_)
      refine lv_iload_n hx hb dX1_parse_33 rfl (lv_at hl 0 rfl) ?_
      refine lv_iconst (v := (-1)) hx hb dX1_parse_34 (by decide) ?_
      refine lv_icmp_eq (tgt := 40) hx hb dX1_parse_35 (by decide) (fun c_13 => ?_) (fun c_13 => ?_)
      · skip
        exact absurd c_13 (by decide)
      · skip
        refine lv_iload_n hx hb dX1_parse_38 rfl (lv_at hl 0 rfl) ?_
        exact W.iret (v := 1) hx hb hr (fun t ht hW => ⟨⟨1, (of_4, 232792560, oia_9), rfl, Or.inr ((by first | assumption | with_reducible rfl | contradiction | exact (if_pos (by repeat' (first | assumption | decide | constructor))).symm | exact (if_neg (fun hh => absurd hh (by assumption))).symm | exact (if_neg (fun hh => absurd hh.1 (by assumption))).symm | exact (if_neg (fun hh => absurd hh.2 (by assumption))).symm | exact (if_neg (fun hh => absurd hh.1.1 (by assumption))).symm | exact (if_neg (fun hh => absurd hh.1.2 (by assumption))).symm | exact (if_neg (fun hh => absurd hh.2.1 (by assumption))).symm | exact (if_neg (fun hh => absurd hh.2.2 (by assumption))).symm | exact (if_neg (fun hh => absurd hh.2.2.1 (by assumption))).symm | exact (if_neg (fun hh => absurd hh.2.2.2 (by assumption))).symm | exact (if_neg (fun hh => absurd hh.2.2.2.1 (by assumption))).symm | exact (if_neg (fun hh => absurd hh.2.2.2.2 (by assumption))).symm | decide | (exfalso; simp only [zi_le, zi_lt, zi_eq, zi_n0, zi_n1, zi_n2, zi_n3, zi_n4, zi_n23, zi_n24, zi_n100, zi_n399, zi_n60, zi_n255, zi_n99, zi_nm1, zi_n30] at *; omega) | (simp_all; done))), ⟨by rw [ht]; exact hP, hD⟩⟩, hS.F ht⟩) hS.2.2 dX1_parse_39
set_option maxHeartbeats 4000000 in
set_option maxRecDepth 100000 in
theorem c_X1_isFaulty (l : Launch) (dC : Nat → ClassId) (dI : Nat → Nat → Nat) (k : Nat → ClassId) (T : List (ClassId × FieldType)) (h0 : Nat) (a1 : Nat) (a2 : Nat) (tx : Nat → Int32) (sh : Nat → Int64) (cm : Int64) (ia : Int32) (isz : Int32) (iyh : Int32) (iyn : Int32) (ilu : Int32) (sz : Nat)  : Met l yX1_isFaulty (wz yX1_isFaulty cX1_isFaulty 1 (some .boolean)) ({ frames := 0, cells := 0, slots := 0, locals := 0 }) (va_Pc [.ref h0] (zPre dC dI k T (zDes k h0 a1 a2 tx sh cm ia isz 0 iyh iyn ilu) sz)) (va_Qi (fun (r : Int32) (u : Unit) => r = 1) (fun u t => zPost dC dI (va_A (zDes k h0 a1 a2 tx sh cm ia isz 0 iyh iyn ilu) sz) (zDes k h0 a1 a2 tx sh cm ia isz 0 iyh iyn ilu) t) (va_A (zDes k h0 a1 a2 tx sh cm ia isz 0 iyh iyn ilu) sz)) 0 0 (va_A (zDes k h0 a1 a2 tx sh cm ia isz 0 iyh iyn ilu) sz) := by
  refine Met.ofW (cc := cX1_isFaulty) (maxL := 1) (ret := (some .boolean)) (by decide) rfl ?_
  intro p e s m args below meth c s₁ B hml hv
  obtain ⟨rfl, hsz, hP, hK, hD0⟩ := hv
  have hx := B.exec
  have hb := B.bytes
  have hr := B.returns
  have hts : ∀ w ∈ zw, w.before _ s = true := fun w h => atoms_spec (ws := (wz yX1_isFaulty cX1_isFaulty 1 (some .boolean))) B.pre w (List.mem_cons_of_mem _ h)
  have hown : s.vm.findClass RX1 = some m.cls := findClass_of_methodNamed B.named
  have hlocks := B.notSynchronized
  subst hsz
  have hi1 := inw1
  have hD := hD0.self (sz := s.heap.size)
  generalize hAe : va_A (zDes k h0 a1 a2 tx sh cm ia isz 0 iyh iyn ilu) s.heap.size = A at hD ⊢
  have hA : ∀ q : Nat, s.heap.size ≤ q → A q := fun q h => by rw [← hAe]; exact Or.inr h
  have hl := lv_entry ([.ref h0]) (n := 1) (Nat.le_of_ble_eq_true rfl)
  rw [lg_entry_eq]
  generalize (lg_sl ([.ref h0]) ++ List.replicate (1 - (lg_sl ([.ref h0])).length) Slot.unset).toArray = ls at hl ⊢
  have hl : lv_has ls 1 [(0, .ref h0)] := hl
  refine z_start (w := (zDes k h0 a1 a2 tx sh cm ia isz 0 iyh iyn ilu)) hP hD (fun H locs hP hD hS => ?_)
  refine lv_aload_n hx hb dX1_isFaulty_0 rfl (lv_at hl 0 rfl) ?_
  refine va_get (D := (dC, dI)) (ci := 1) (v := .int 0) (C := RX1) (T := TX1) (N := 9) hx hb hts hi1 hown hK.1 hP 0 rfl rfl 5 (by decide) (hts _ wmt1_124) (fun _ h9 => h9) rfl dX1_isFaulty_1 ?_
  refine lv_iconst (v := (-1)) hx hb dX1_isFaulty_4 (by decide) ?_
  refine lv_icmp_eq (tgt := 12) hx hb dX1_isFaulty_5 (by decide) (fun c_1 => ?_) (fun c_1 => ?_)
  · skip
    exact absurd c_1 (by decide)
  · skip
    refine lv_iconst (v := 1) hx hb dX1_isFaulty_8 (by decide) ?_
    refine lv_goto (tgt := 13) hx hb dX1_isFaulty_9 (by decide) ?_
    exact W.zret (v := 1) (ty := .boolean) hx hb hr rfl (fun t ht hW => ⟨⟨1, (), rfl, (by first | assumption | with_reducible rfl | contradiction | exact (if_pos (by repeat' (first | assumption | decide | constructor))).symm | exact (if_neg (fun hh => absurd hh (by assumption))).symm | exact (if_neg (fun hh => absurd hh.1 (by assumption))).symm | exact (if_neg (fun hh => absurd hh.2 (by assumption))).symm | exact (if_neg (fun hh => absurd hh.1.1 (by assumption))).symm | exact (if_neg (fun hh => absurd hh.1.2 (by assumption))).symm | exact (if_neg (fun hh => absurd hh.2.1 (by assumption))).symm | exact (if_neg (fun hh => absurd hh.2.2 (by assumption))).symm | exact (if_neg (fun hh => absurd hh.2.2.1 (by assumption))).symm | exact (if_neg (fun hh => absurd hh.2.2.2 (by assumption))).symm | exact (if_neg (fun hh => absurd hh.2.2.2.1 (by assumption))).symm | exact (if_neg (fun hh => absurd hh.2.2.2.2 (by assumption))).symm | decide | (exfalso; simp only [zi_le, zi_lt, zi_eq, zi_n0, zi_n1, zi_n2, zi_n3, zi_n4, zi_n23, zi_n24, zi_n100, zi_n399, zi_n60, zi_n255, zi_n99, zi_nm1, zi_n30] at *; omega) | (simp_all; done)), ⟨by rw [ht]; exact hP, hD⟩⟩, hS.F ht⟩) hS.2.2 dX1_isFaulty_13
set_option maxHeartbeats 4000000 in
set_option maxRecDepth 100000 in
theorem c_X1_isFaulty_1 (l : Launch) (dC : Nat → ClassId) (dI : Nat → Nat → Nat) (k : Nat → ClassId) (T : List (ClassId × FieldType)) (h0 : Nat) (a1 : Nat) (a2 : Nat) (tx : Nat → Int32) (sh : Nat → Int64) (cm : Int64) (ia : Int32) (isz : Int32) (iyh : Int32) (iyn : Int32) (ilu : Int32) (sz : Nat)  : Met l yX1_isFaulty (wz yX1_isFaulty cX1_isFaulty 1 (some .boolean)) ({ frames := 0, cells := 0, slots := 0, locals := 0 }) (va_Pc [.ref h0] (zPre dC dI k T (zDes k h0 a1 a2 tx sh cm ia isz 1 iyh iyn ilu) sz)) (va_Qi (fun (r : Int32) (u : Unit) => r = 1) (fun u t => zPost dC dI (va_A (zDes k h0 a1 a2 tx sh cm ia isz 1 iyh iyn ilu) sz) (zDes k h0 a1 a2 tx sh cm ia isz 1 iyh iyn ilu) t) (va_A (zDes k h0 a1 a2 tx sh cm ia isz 1 iyh iyn ilu) sz)) 0 0 (va_A (zDes k h0 a1 a2 tx sh cm ia isz 1 iyh iyn ilu) sz) := by
  refine Met.ofW (cc := cX1_isFaulty) (maxL := 1) (ret := (some .boolean)) (by decide) rfl ?_
  intro p e s m args below meth c s₁ B hml hv
  obtain ⟨rfl, hsz, hP, hK, hD0⟩ := hv
  have hx := B.exec
  have hb := B.bytes
  have hr := B.returns
  have hts : ∀ w ∈ zw, w.before _ s = true := fun w h => atoms_spec (ws := (wz yX1_isFaulty cX1_isFaulty 1 (some .boolean))) B.pre w (List.mem_cons_of_mem _ h)
  have hown : s.vm.findClass RX1 = some m.cls := findClass_of_methodNamed B.named
  have hlocks := B.notSynchronized
  subst hsz
  have hi1 := inw1
  have hD := hD0.self (sz := s.heap.size)
  generalize hAe : va_A (zDes k h0 a1 a2 tx sh cm ia isz 1 iyh iyn ilu) s.heap.size = A at hD ⊢
  have hA : ∀ q : Nat, s.heap.size ≤ q → A q := fun q h => by rw [← hAe]; exact Or.inr h
  have hl := lv_entry ([.ref h0]) (n := 1) (Nat.le_of_ble_eq_true rfl)
  rw [lg_entry_eq]
  generalize (lg_sl ([.ref h0]) ++ List.replicate (1 - (lg_sl ([.ref h0])).length) Slot.unset).toArray = ls at hl ⊢
  have hl : lv_has ls 1 [(0, .ref h0)] := hl
  refine z_start (w := (zDes k h0 a1 a2 tx sh cm ia isz 1 iyh iyn ilu)) hP hD (fun H locs hP hD hS => ?_)
  refine lv_aload_n hx hb dX1_isFaulty_0 rfl (lv_at hl 0 rfl) ?_
  refine va_get (D := (dC, dI)) (ci := 1) (v := .int 1) (C := RX1) (T := TX1) (N := 9) hx hb hts hi1 hown hK.1 hP 0 rfl rfl 5 (by decide) (hts _ wmt1_124) (fun _ h9 => h9) rfl dX1_isFaulty_1 ?_
  refine lv_iconst (v := (-1)) hx hb dX1_isFaulty_4 (by decide) ?_
  refine lv_icmp_eq (tgt := 12) hx hb dX1_isFaulty_5 (by decide) (fun c_1 => ?_) (fun c_1 => ?_)
  · skip
    exact absurd c_1 (by decide)
  · skip
    refine lv_iconst (v := 1) hx hb dX1_isFaulty_8 (by decide) ?_
    refine lv_goto (tgt := 13) hx hb dX1_isFaulty_9 (by decide) ?_
    exact W.zret (v := 1) (ty := .boolean) hx hb hr rfl (fun t ht hW => ⟨⟨1, (), rfl, (by first | assumption | with_reducible rfl | contradiction | exact (if_pos (by repeat' (first | assumption | decide | constructor))).symm | exact (if_neg (fun hh => absurd hh (by assumption))).symm | exact (if_neg (fun hh => absurd hh.1 (by assumption))).symm | exact (if_neg (fun hh => absurd hh.2 (by assumption))).symm | exact (if_neg (fun hh => absurd hh.1.1 (by assumption))).symm | exact (if_neg (fun hh => absurd hh.1.2 (by assumption))).symm | exact (if_neg (fun hh => absurd hh.2.1 (by assumption))).symm | exact (if_neg (fun hh => absurd hh.2.2 (by assumption))).symm | exact (if_neg (fun hh => absurd hh.2.2.1 (by assumption))).symm | exact (if_neg (fun hh => absurd hh.2.2.2 (by assumption))).symm | exact (if_neg (fun hh => absurd hh.2.2.2.1 (by assumption))).symm | exact (if_neg (fun hh => absurd hh.2.2.2.2 (by assumption))).symm | decide | (exfalso; simp only [zi_le, zi_lt, zi_eq, zi_n0, zi_n1, zi_n2, zi_n3, zi_n4, zi_n23, zi_n24, zi_n100, zi_n399, zi_n60, zi_n255, zi_n99, zi_nm1, zi_n30] at *; omega) | (simp_all; done)), ⟨by rw [ht]; exact hP, hD⟩⟩, hS.F ht⟩) hS.2.2 dX1_isFaulty_13
set_option maxHeartbeats 4000000 in
set_option maxRecDepth 100000 in
theorem c_X1_settle_e (l : Launch) (dC : Nat → ClassId) (dI : Nat → Nat → Nat) (k : Nat → ClassId) (T : List (ClassId × FieldType)) (h0 : Nat) (a1 : Nat) (a2 : Nat) (tx : Nat → Int32) (sh : Nat → Int64) (cm : Int64) (ia : Int32) (ifa : Int32) (iyh : Int32) (iyn : Int32) (ilu : Int32) (v : Int32) (sz : Nat)  : Met l yX1_settle (wz yX1_settle cX1_settle 2 none) ({ frames := 3, cells := 0, slots := 0, locals := 70 }) (va_Pc [.ref h0, .int v] (zPre dC dI k T (zDes k h0 a1 a2 tx sh cm ia 0 ifa iyh iyn ilu) sz)) (va_Qv (fun (u : (Nat → Int64) × Int64 × Int32) => True) (fun u t => zPost dC dI (va_A (zDes k h0 a1 a2 tx sh cm ia 0 ifa iyh iyn ilu) sz) (zDes k h0 a1 a2 tx u.1 u.2.1 u.2.2 0 0 iyh iyn ilu) t) (va_A (zDes k h0 a1 a2 tx sh cm ia 0 ifa iyh iyn ilu) sz)) 0 0 (va_A (zDes k h0 a1 a2 tx sh cm ia 0 ifa iyh iyn ilu) sz) := by
  refine Met.ofW (cc := cX1_settle) (maxL := 2) (ret := none) (by decide) rfl ?_
  intro p e s m args below meth c s₁ B hml hv
  obtain ⟨rfl, hsz, hP, hK, hD0⟩ := hv
  have hx := B.exec
  have hb := B.bytes
  have hr := B.returns
  have hts : ∀ w ∈ zw, w.before _ s = true := fun w h => atoms_spec (ws := (wz yX1_settle cX1_settle 2 none)) B.pre w (List.mem_cons_of_mem _ h)
  have hown : s.vm.findClass RX1 = some m.cls := findClass_of_methodNamed B.named
  have hlocks := B.notSynchronized
  subst hsz
  have hi1 := inw1
  have hD := hD0.self (sz := s.heap.size)
  generalize hAe : va_A (zDes k h0 a1 a2 tx sh cm ia 0 ifa iyh iyn ilu) s.heap.size = A at hD ⊢
  have hA : ∀ q : Nat, s.heap.size ≤ q → A q := fun q h => by rw [← hAe]; exact Or.inr h
  have hl := lv_entry ([.ref h0, .int v]) (n := 2) (Nat.le_of_ble_eq_true rfl)
  rw [lg_entry_eq]
  generalize (lg_sl ([.ref h0, .int v]) ++ List.replicate (2 - (lg_sl ([.ref h0, .int v])).length) Slot.unset).toArray = ls at hl ⊢
  have hl : lv_has ls 2 [(0, .ref h0), (1, .int v)] := hl
  refine z_start (w := (zDes k h0 a1 a2 tx sh cm ia 0 ifa iyh iyn ilu)) hP hD (fun H locs hP hD hS => ?_)
  refine lv_aload_n hx hb dX1_settle_0 rfl (lv_at hl 0 rfl) ?_
  refine lv_aload_n hx hb dX1_settle_1 rfl (lv_at hl 0 rfl) ?_
  refine zc_i (w := (zDes k h0 a1 a2 tx sh cm ia 0 ifa iyh iyn ilu)) (wc := (zDes k h0 a1 a2 tx sh cm ia 0 ifa iyh iyn ilu)) (wr := []) (va_runV (As := []) (rest := [.ref h0]) ⟨hx, hb, hml, hown, hts⟩ (c_X1_parse_e l dC dI k T h0 a1 a2 tx sh cm ia ifa iyh iyn ilu _ ) (cwV 0 hts (gzV wmt1_222 wmt1_224 wmp1_0 wmt1_6 wmt1_225) rfl rfl rfl (by decide +kernel) ⟨Nat.le_of_ble_eq_true rfl, Nat.le_of_ble_eq_true rfl⟩) (zp_V (ci := 1) (q0 := 0) hK hP hD [0, 1, 2] rfl rfl rfl rfl) rfl rfl hl.1 rfl (lv_room (Nat.le_of_ble_eq_true rfl)) dX1_settle_2 ⟨Nat.le_of_ble_eq_true rfl, Nat.le_of_ble_eq_true rfl⟩) hP hD hS hA [0, 1, 2] [] rfl rfl (by decide) (by decide) (fun r_1 u_2 H locs w_3 hP hD hS => ?_)
  obtain ⟨osh_4, ocm_5, oia_6⟩ := u_2
  have hP : va_P (dC, dI) vwCl (zDes k h0 a1 a2 tx osh_4 ocm_5 oia_6 0 ifa iyh iyn ilu) H := hP.sub [0, 1, 2] rfl
  have hD : va_D A (zDes k h0 a1 a2 tx osh_4 ocm_5 oia_6 0 ifa iyh iyn ilu) := hD.sub [0, 1, 2] (by decide) rfl
  have e_7 := w_3
  replace e_7 : r_1 = 0 := e_7
  subst e_7
  refine va_put (D := (dC, dI)) (ci := 1) (v := .int 0) (ty := .int) (C := RX1) (T := TX1) (N := 9) hx hb hts hi1 tyX1 tyX1_ok nmX1 hown hK.1 hP hD hS 0 rfl rfl 5 (by decide) (hts _ wmt1_124) (fun _ h9 => h9) rfl (by decide +kernel) rfl rfl (Nat.le_of_ble_eq_true rfl) dX1_settle_5 (fun H locs hP hD hS => ?_)
  have hP : va_P (dC, dI) vwCl (zDes k h0 a1 a2 tx osh_4 ocm_5 oia_6 0 0 iyh iyn ilu) H := hP
  have hD : va_D A (zDes k h0 a1 a2 tx osh_4 ocm_5 oia_6 0 0 iyh iyn ilu) := hD
  refine lv_aload_n hx hb dX1_settle_8 rfl (lv_at hl 0 rfl) ?_
  refine zc_i (w := (zDes k h0 a1 a2 tx osh_4 ocm_5 oia_6 0 0 iyh iyn ilu)) (wc := (zDes k h0 a1 a2 tx osh_4 ocm_5 oia_6 0 0 iyh iyn ilu)) (wr := []) (va_runV (As := []) (rest := []) ⟨hx, hb, hml, hown, hts⟩ (c_X1_isFaulty l dC dI k T h0 a1 a2 tx osh_4 ocm_5 oia_6 0 iyh iyn ilu _ ) (cwV 0 hts (gzV wmt2_19 wmt2_20 wmt2_21 wmt1_6 wmt2_22) rfl rfl rfl (by decide +kernel) ⟨Nat.le_of_ble_eq_true rfl, Nat.le_of_ble_eq_true rfl⟩) (zp_V (ci := 1) (q0 := 0) hK hP hD [0, 1, 2] rfl rfl rfl rfl) rfl rfl hl.1 rfl (lv_room (Nat.le_of_ble_eq_true rfl)) dX1_settle_9 ⟨Nat.le_of_ble_eq_true rfl, Nat.le_of_ble_eq_true rfl⟩) hP hD hS hA [0, 1, 2] [] rfl rfl (by decide) (by decide) (fun r_8 u_9 H locs w_10 hP hD hS => ?_)
  have hP : va_P (dC, dI) vwCl (zDes k h0 a1 a2 tx osh_4 ocm_5 oia_6 0 0 iyh iyn ilu) H := hP.sub [0, 1, 2] rfl
  have hD : va_D A (zDes k h0 a1 a2 tx osh_4 ocm_5 oia_6 0 0 iyh iyn ilu) := hD.sub [0, 1, 2] (by decide) rfl
  have e_11 := w_10
  replace e_11 : r_8 = 1 := e_11
  subst e_11
  refine lv_if_ne (tgt := 20) hx hb dX1_settle_12 (by decide) (fun c_12 => ?_) (fun c_12 => ?_)
  · skip
    exact W.vret hx hb hr (fun t ht hW => ⟨⟨(osh_4, ocm_5, oia_6), rfl, trivial, ⟨by rw [ht]; exact hP, hD⟩⟩, hS.F ht⟩) hS.2.2 dX1_settle_20
  · skip
    exact absurd c_12 (by decide)
set_option maxHeartbeats 4000000 in
set_option maxRecDepth 100000 in
theorem c_X1_settle_1 (l : Launch) (dC : Nat → ClassId) (dI : Nat → Nat → Nat) (k : Nat → ClassId) (T : List (ClassId × FieldType)) (h0 : Nat) (a1 : Nat) (a2 : Nat) (tx : Nat → Int32) (sh : Nat → Int64) (cm : Int64) (ia : Int32) (ifa : Int32) (iyh : Int32) (iyn : Int32) (ilu : Int32) (v : Int32) (sz : Nat)  : Met l yX1_settle (wz yX1_settle cX1_settle 2 none) ({ frames := 5, cells := 0, slots := 0, locals := 114 }) (va_Pc [.ref h0, .int v] (zPre dC dI k T (zDes k h0 a1 a2 tx sh cm ia 1 ifa iyh iyn ilu) sz)) (va_Qv (fun (u : (Nat → Int64) × Int64 × Int32 × Int32) => True) (fun u t => zPost dC dI (va_A (zDes k h0 a1 a2 tx sh cm ia 1 ifa iyh iyn ilu) sz) (zDes k h0 a1 a2 tx u.1 u.2.1 u.2.2.1 1 u.2.2.2 iyh iyn ilu) t) (va_A (zDes k h0 a1 a2 tx sh cm ia 1 ifa iyh iyn ilu) sz)) 0 0 (va_A (zDes k h0 a1 a2 tx sh cm ia 1 ifa iyh iyn ilu) sz) := by
  refine Met.ofW (cc := cX1_settle) (maxL := 2) (ret := none) (by decide) rfl ?_
  intro p e s m args below meth c s₁ B hml hv
  obtain ⟨rfl, hsz, hP, hK, hD0⟩ := hv
  have hx := B.exec
  have hb := B.bytes
  have hr := B.returns
  have hts : ∀ w ∈ zw, w.before _ s = true := fun w h => atoms_spec (ws := (wz yX1_settle cX1_settle 2 none)) B.pre w (List.mem_cons_of_mem _ h)
  have hown : s.vm.findClass RX1 = some m.cls := findClass_of_methodNamed B.named
  have hlocks := B.notSynchronized
  subst hsz
  have hi1 := inw1
  have hD := hD0.self (sz := s.heap.size)
  generalize hAe : va_A (zDes k h0 a1 a2 tx sh cm ia 1 ifa iyh iyn ilu) s.heap.size = A at hD ⊢
  have hA : ∀ q : Nat, s.heap.size ≤ q → A q := fun q h => by rw [← hAe]; exact Or.inr h
  have hl := lv_entry ([.ref h0, .int v]) (n := 2) (Nat.le_of_ble_eq_true rfl)
  rw [lg_entry_eq]
  generalize (lg_sl ([.ref h0, .int v]) ++ List.replicate (2 - (lg_sl ([.ref h0, .int v])).length) Slot.unset).toArray = ls at hl ⊢
  have hl : lv_has ls 2 [(0, .ref h0), (1, .int v)] := hl
  refine z_start (w := (zDes k h0 a1 a2 tx sh cm ia 1 ifa iyh iyn ilu)) hP hD (fun H locs hP hD hS => ?_)
  refine lv_aload_n hx hb dX1_settle_0 rfl (lv_at hl 0 rfl) ?_
  refine lv_aload_n hx hb dX1_settle_1 rfl (lv_at hl 0 rfl) ?_
  refine zc_i (w := (zDes k h0 a1 a2 tx sh cm ia 1 ifa iyh iyn ilu)) (wc := (zDes k h0 a1 a2 tx sh cm ia 1 ifa iyh iyn ilu)) (wr := []) (va_runV (As := []) (rest := [.ref h0]) ⟨hx, hb, hml, hown, hts⟩ (c_X1_parse_1 l dC dI k T h0 a1 a2 tx sh cm ia ifa iyh iyn ilu _ ) (cwV 0 hts (gzV wmt1_222 wmt1_224 wmp1_0 wmt1_6 wmt1_225) rfl rfl rfl (by decide +kernel) ⟨Nat.le_of_ble_eq_true rfl, Nat.le_of_ble_eq_true rfl⟩) (zp_V (ci := 1) (q0 := 0) hK hP hD [0, 1, 2] rfl rfl rfl rfl) rfl rfl hl.1 rfl (lv_room (Nat.le_of_ble_eq_true rfl)) dX1_settle_2 ⟨Nat.le_of_ble_eq_true rfl, Nat.le_of_ble_eq_true rfl⟩) hP hD hS hA [0, 1, 2] [] rfl rfl (by decide) (by decide) (fun r_1 u_2 H locs w_3 hP hD hS => ?_)
  obtain ⟨osh_4, ocm_5, oia_6⟩ := u_2
  have hP : va_P (dC, dI) vwCl (zDes k h0 a1 a2 tx osh_4 ocm_5 oia_6 1 ifa iyh iyn ilu) H := hP.sub [0, 1, 2] rfl
  have hD : va_D A (zDes k h0 a1 a2 tx osh_4 ocm_5 oia_6 1 ifa iyh iyn ilu) := hD.sub [0, 1, 2] (by decide) rfl
  rcases w_3 with e_7 | e_8
  · skip
    replace e_7 : r_1 = 0 := e_7
    subst e_7
    refine va_put (D := (dC, dI)) (ci := 1) (v := .int 0) (ty := .int) (C := RX1) (T := TX1) (N := 9) hx hb hts hi1 tyX1 tyX1_ok nmX1 hown hK.1 hP hD hS 0 rfl rfl 5 (by decide) (hts _ wmt1_124) (fun _ h9 => h9) rfl (by decide +kernel) rfl rfl (Nat.le_of_ble_eq_true rfl) dX1_settle_5 (fun H locs hP hD hS => ?_)
    have hP : va_P (dC, dI) vwCl (zDes k h0 a1 a2 tx osh_4 ocm_5 oia_6 1 0 iyh iyn ilu) H := hP
    have hD : va_D A (zDes k h0 a1 a2 tx osh_4 ocm_5 oia_6 1 0 iyh iyn ilu) := hD
    refine lv_aload_n hx hb dX1_settle_8 rfl (lv_at hl 0 rfl) ?_
    refine zc_i (w := (zDes k h0 a1 a2 tx osh_4 ocm_5 oia_6 1 0 iyh iyn ilu)) (wc := (zDes k h0 a1 a2 tx osh_4 ocm_5 oia_6 1 0 iyh iyn ilu)) (wr := []) (va_runV (As := []) (rest := []) ⟨hx, hb, hml, hown, hts⟩ (c_X1_isFaulty l dC dI k T h0 a1 a2 tx osh_4 ocm_5 oia_6 1 iyh iyn ilu _ ) (cwV 0 hts (gzV wmt2_19 wmt2_20 wmt2_21 wmt1_6 wmt2_22) rfl rfl rfl (by decide +kernel) ⟨Nat.le_of_ble_eq_true rfl, Nat.le_of_ble_eq_true rfl⟩) (zp_V (ci := 1) (q0 := 0) hK hP hD [0, 1, 2] rfl rfl rfl rfl) rfl rfl hl.1 rfl (lv_room (Nat.le_of_ble_eq_true rfl)) dX1_settle_9 ⟨Nat.le_of_ble_eq_true rfl, Nat.le_of_ble_eq_true rfl⟩) hP hD hS hA [0, 1, 2] [] rfl rfl (by decide) (by decide) (fun r_9 u_10 H locs w_11 hP hD hS => ?_)
    have hP : va_P (dC, dI) vwCl (zDes k h0 a1 a2 tx osh_4 ocm_5 oia_6 1 0 iyh iyn ilu) H := hP.sub [0, 1, 2] rfl
    have hD : va_D A (zDes k h0 a1 a2 tx osh_4 ocm_5 oia_6 1 0 iyh iyn ilu) := hD.sub [0, 1, 2] (by decide) rfl
    have e_12 := w_11
    replace e_12 : r_9 = 1 := e_12
    subst e_12
    refine lv_if_ne (tgt := 20) hx hb dX1_settle_12 (by decide) (fun c_13 => ?_) (fun c_13 => ?_)
    · skip
      exact W.vret hx hb hr (fun t ht hW => ⟨⟨(osh_4, ocm_5, oia_6, 0), rfl, trivial, ⟨by rw [ht]; exact hP, hD⟩⟩, hS.F ht⟩) hS.2.2 dX1_settle_20
    · skip
      exact absurd c_13 (by decide)
  · skip
    replace e_8 : r_1 = 1 := e_8
    subst e_8
    refine va_put (D := (dC, dI)) (ci := 1) (v := .int 1) (ty := .int) (C := RX1) (T := TX1) (N := 9) hx hb hts hi1 tyX1 tyX1_ok nmX1 hown hK.1 hP hD hS 0 rfl rfl 5 (by decide) (hts _ wmt1_124) (fun _ h9 => h9) rfl (by decide +kernel) rfl rfl (Nat.le_of_ble_eq_true rfl) dX1_settle_5 (fun H locs hP hD hS => ?_)
    have hP : va_P (dC, dI) vwCl (zDes k h0 a1 a2 tx osh_4 ocm_5 oia_6 1 1 iyh iyn ilu) H := hP
    have hD : va_D A (zDes k h0 a1 a2 tx osh_4 ocm_5 oia_6 1 1 iyh iyn ilu) := hD
    refine lv_aload_n hx hb dX1_settle_8 rfl (lv_at hl 0 rfl) ?_
    refine zc_i (w := (zDes k h0 a1 a2 tx osh_4 ocm_5 oia_6 1 1 iyh iyn ilu)) (wc := (zDes k h0 a1 a2 tx osh_4 ocm_5 oia_6 1 1 iyh iyn ilu)) (wr := []) (va_runV (As := []) (rest := []) ⟨hx, hb, hml, hown, hts⟩ (c_X1_isFaulty_1 l dC dI k T h0 a1 a2 tx osh_4 ocm_5 oia_6 1 iyh iyn ilu _ ) (cwV 0 hts (gzV wmt2_19 wmt2_20 wmt2_21 wmt1_6 wmt2_22) rfl rfl rfl (by decide +kernel) ⟨Nat.le_of_ble_eq_true rfl, Nat.le_of_ble_eq_true rfl⟩) (zp_V (ci := 1) (q0 := 0) hK hP hD [0, 1, 2] rfl rfl rfl rfl) rfl rfl hl.1 rfl (lv_room (Nat.le_of_ble_eq_true rfl)) dX1_settle_9 ⟨Nat.le_of_ble_eq_true rfl, Nat.le_of_ble_eq_true rfl⟩) hP hD hS hA [0, 1, 2] [] rfl rfl (by decide) (by decide) (fun r_14 u_15 H locs w_16 hP hD hS => ?_)
    have hP : va_P (dC, dI) vwCl (zDes k h0 a1 a2 tx osh_4 ocm_5 oia_6 1 1 iyh iyn ilu) H := hP.sub [0, 1, 2] rfl
    have hD : va_D A (zDes k h0 a1 a2 tx osh_4 ocm_5 oia_6 1 1 iyh iyn ilu) := hD.sub [0, 1, 2] (by decide) rfl
    have e_17 := w_16
    replace e_17 : r_14 = 1 := e_17
    subst e_17
    refine lv_if_ne (tgt := 20) hx hb dX1_settle_12 (by decide) (fun c_18 => ?_) (fun c_18 => ?_)
    · skip
      exact W.vret hx hb hr (fun t ht hW => ⟨⟨(osh_4, ocm_5, oia_6, 1), rfl, trivial, ⟨by rw [ht]; exact hP, hD⟩⟩, hS.F ht⟩) hS.2.2 dX1_settle_20
    · skip
      exact absurd c_18 (by decide)
