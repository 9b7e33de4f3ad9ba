set_option maxHeartbeats 4000000 in
set_option maxRecDepth 100000 in
theorem c_J7_fill_53178_4 (l : Launch) (dC : Nat → ClassId) (dI : Nat → Nat → Nat) (k : Nat → ClassId) (a : Nat → Nat) (z : ZS) (v : Int32) (sz : Nat)  : Met l yJ7_fill_53178 (wz yJ7_fill_53178 cJ7_fill_53178 4 none) ({ frames := 0, cells := 0, slots := 0, locals := 0 }) (va_Pc [.ref (a 0), .int v] (zPre dC dI k (zTX k) (zI4 k a z) sz)) (va_Qv (fun (u : ZS) => (∀ j : Nat, j < 4 → u.2.2.1 0 j = v)) (fun u t => zPost dC dI (va_A (zI4 k a z) sz) (zI4 k a u) t) (va_A (zI4 k a z) sz)) 0 0 (va_A (zI4 k a z) sz) := by
  refine Met.ofW (cc := cJ7_fill_53178) (maxL := 4) (ret := none) (by decide) rfl ?_
  intro p e s m args below meth c s₁ B hml hv
  obtain ⟨rfl, hsz, hP, hK, hD0⟩ := hv
  have hx := B.exec
  have hb := B.bytes
  have hr := B.returns
  have hts := atoms_spec (ws := wz yJ7_fill_53178 cJ7_fill_53178 4 none) B.pre
  have htb : ∀ w ∈ zw, w.before _ s = true := fun w h => hts w (List.mem_cons_of_mem _ h)
  have hown : s.vm.findClass RJ7 = some m.cls := findClass_of_methodNamed B.named
  have hlocks := B.notSynchronized
  clear hts
  subst hsz
  have hD := hD0.self (sz := s.heap.size)
  generalize hAe : va_A (zI4 k a z) s.heap.size = A at hD ⊢
  have hA : ∀ q : Nat, s.heap.size ≤ q → A q := fun q h => by rw [← hAe]; exact Or.inr h
  have hDa : ∀ z9 : ZS, va_D A (zI4 k a z9) := fun z9 => va_D_adr (w := zI4 k a z) rfl hD
  have hl := lv_entry ([.ref (a 0), .int v]) (n := 4) (Nat.le_of_ble_eq_true rfl)
  rw [lg_entry_eq]
  generalize (lg_sl ([.ref (a 0), .int v]) ++ List.replicate (4 - (lg_sl ([.ref (a 0), .int v])).length) Slot.unset).toArray = ls at hl ⊢
  have hl : lv_has ls 4 [(0, .ref (a 0)), (1, .int v)] := hl
  refine z_start2 (A := A) (w := (zI4 k a z)) hP (fun H locs hP hS => ?_)
  clear hD0 hAe
  refine lv_iconst (v := 0) hx hb dJ7_fill_53178_0 (by decide) ?_
  refine lv_istore_n (lv' := [(2, .int 0), (0, .ref (a 0)), (1, .int v)]) hx hb dJ7_fill_53178_1 rfl hl (by decide) rfl (fun ls hl => ?_)
  refine lv_aload_n hx hb dJ7_fill_53178_2 rfl (lv_at hl 1 rfl) ?_
  refine va_alen (D := (dC, dI)) (v := 4) hx hb hK.1 hP 0 0 rfl rfl rfl dJ7_fill_53178_3 ?_
  refine lv_istore_n (lv' := [(3, .int 4), (2, .int 0), (0, .ref (a 0)), (1, .int v)]) hx hb dJ7_fill_53178_4 rfl hl (by decide) rfl (fun ls hl => ?_)
  obtain ⟨i, ei⟩ : ∃ x : Int32, 0 = x := ⟨_, rfl⟩
  obtain ⟨z1, ez1⟩ : ∃ x : ZS, z = x := ⟨_, rfl⟩
  have hv5 : (0 ≤ i.toInt ∧ i.toInt ≤ 4) ∧ (∀ j : Nat, (j : Int) < i.toInt → z1.2.2.1 0 j = v) := by subst ei ez1; exact ⟨(by decide), (fun j hj => absurd hj z_no0)⟩
  replace hl : lv_has ls 4 [(3, .int 4), (2, .int i), (0, .ref (a 0)), (1, .int v)] := by subst ei ez1; exact hl
  replace hP : va_P (dC, dI) vwCl (zI4 k a z1) H := by subst ez1; exact hP
  clear ei ez1
  obtain ⟨mm5, hm5⟩ : ∃ mm : Nat, mm = (4 - i.toInt).toNat := ⟨_, rfl⟩
  refine z_cut2 hP hS hl ?_
  clear hl hP
  intro H locs ls hP hS hl
  induction mm5 using Nat.strongRecOn generalizing i z1 H locs ls with
  | _ mm5 ih5 =>
    obtain ⟨hi, hfl⟩ := hv5
    refine lv_iload_n hx hb dJ7_fill_53178_5 rfl (lv_at hl 1 rfl) ?_
    refine lv_iload_n hx hb dJ7_fill_53178_6 rfl (lv_at hl 0 rfl) ?_
    refine lv_icmp_ge (tgt := 20) hx hb dJ7_fill_53178_7 (by decide) (fun c_1 => ?_) (fun c_1 => ?_)
    · skip
      have hc_1 := zb_le (show (4 : Int32).toInt = 4 by decide) rfl c_1
      exact W.vret hx hb hr (fun t ht hW => ⟨⟨z1, rfl, (fun j hj => hfl j (by omega)), ⟨by rw [ht]; exact hP, hDa _⟩⟩, hS.F ht⟩) hS.2.2 dJ7_fill_53178_20
    · skip
      have hc_1 := zb_nle (show (4 : Int32).toInt = 4 by decide) rfl c_1
      refine lv_aload_n hx hb dJ7_fill_53178_10 rfl (lv_at hl 2 rfl) ?_
      refine lv_iload_n hx hb dJ7_fill_53178_11 rfl (lv_at hl 1 rfl) ?_
      refine lv_iload_n hx hb dJ7_fill_53178_12 rfl (lv_at hl 3 rfl) ?_
      refine va_iast (D := (dC, dI)) hx hb hK.1 hP (hDa _) hS 0 0 rfl rfl (z_in (by omega)) dJ7_fill_53178_13 (fun H locs hP _ hS => ?_)
      obtain ⟨f_2, ef_2⟩ : ∃ x : Nat → Int32, x = upd (z1.2.2.1 0) i.toNatClampNeg v := ⟨_, rfl⟩
      have hP : va_P (dC, dI) vwCl (zI4 k a (sA z1 0 f_2)) H := by rw [ef_2]; exact hP
      obtain ⟨x_3, ex_3⟩ : ∃ y : Int32, y = i + 1 := ⟨_, rfl⟩
      have hx_3 : x_3.toInt = i.toInt + 1 := z_add ex_3 rfl (show (1 : Int32).toInt = 1 by decide) (by omega)
      refine lv_iinc (v := x_3) (lv' := [(2, .int x_3), (3, .int 4), (0, .ref (a 0)), (1, .int v)]) hx hb dJ7_fill_53178_14 hl (k := 1) rfl (by rw [ex_3]; rfl) (by decide) rfl (fun ls hl => ?_)
      refine lv_goto (tgt := 5) hx hb dJ7_fill_53178_17 (by decide) ?_
      exact ih5 ((4 - x_3.toInt).toNat) (by omega) x_3 (sA z1 0 f_2) ⟨(show 0 ≤ x_3.toInt ∧ x_3.toInt ≤ 4 by omega), (fill_s hfl ef_2 hi.1 hx_3)⟩ rfl H locs ls hP hS (lv_sub hl [1, 0, 2, 3] rfl)
set_option maxHeartbeats 4000000 in
set_option maxRecDepth 100000 in
theorem c_J7_fill_53178_60 (l : Launch) (dC : Nat → ClassId) (dI : Nat → Nat → Nat) (k : Nat → ClassId) (a : Nat → Nat) (z : ZS) (v : Int32) (sz : Nat)  : Met l yJ7_fill_53178 (wz yJ7_fill_53178 cJ7_fill_53178 4 none) ({ frames := 0, cells := 0, slots := 0, locals := 0 }) (va_Pc [.ref (a 0), .int v] (zPre dC dI k (zTX k) (zI60 k a z) sz)) (va_Qv (fun (u : ZS) => (∀ j : Nat, j < 60 → u.2.2.1 0 j = v)) (fun u t => zPost dC dI (va_A (zI60 k a z) sz) (zI60 k a u) t) (va_A (zI60 k a z) sz)) 0 0 (va_A (zI60 k a z) sz) := by
  refine Met.ofW (cc := cJ7_fill_53178) (maxL := 4) (ret := none) (by decide) rfl ?_
  intro p e s m args below meth c s₁ B hml hv
  obtain ⟨rfl, hsz, hP, hK, hD0⟩ := hv
  have hx := B.exec
  have hb := B.bytes
  have hr := B.returns
  have hts := atoms_spec (ws := wz yJ7_fill_53178 cJ7_fill_53178 4 none) B.pre
  have htb : ∀ w ∈ zw, w.before _ s = true := fun w h => hts w (List.mem_cons_of_mem _ h)
  have hown : s.vm.findClass RJ7 = some m.cls := findClass_of_methodNamed B.named
  have hlocks := B.notSynchronized
  clear hts
  subst hsz
  have hD := hD0.self (sz := s.heap.size)
  generalize hAe : va_A (zI60 k a z) s.heap.size = A at hD ⊢
  have hA : ∀ q : Nat, s.heap.size ≤ q → A q := fun q h => by rw [← hAe]; exact Or.inr h
  have hDa : ∀ z9 : ZS, va_D A (zI60 k a z9) := fun z9 => va_D_adr (w := zI60 k a z) rfl hD
  have hl := lv_entry ([.ref (a 0), .int v]) (n := 4) (Nat.le_of_ble_eq_true rfl)
  rw [lg_entry_eq]
  generalize (lg_sl ([.ref (a 0), .int v]) ++ List.replicate (4 - (lg_sl ([.ref (a 0), .int v])).length) Slot.unset).toArray = ls at hl ⊢
  have hl : lv_has ls 4 [(0, .ref (a 0)), (1, .int v)] := hl
  refine z_start2 (A := A) (w := (zI60 k a z)) hP (fun H locs hP hS => ?_)
  clear hD0 hAe
  refine lv_iconst (v := 0) hx hb dJ7_fill_53178_0 (by decide) ?_
  refine lv_istore_n (lv' := [(2, .int 0), (0, .ref (a 0)), (1, .int v)]) hx hb dJ7_fill_53178_1 rfl hl (by decide) rfl (fun ls hl => ?_)
  refine lv_aload_n hx hb dJ7_fill_53178_2 rfl (lv_at hl 1 rfl) ?_
  refine va_alen (D := (dC, dI)) (v := 60) hx hb hK.1 hP 0 0 rfl rfl rfl dJ7_fill_53178_3 ?_
  refine lv_istore_n (lv' := [(3, .int 60), (2, .int 0), (0, .ref (a 0)), (1, .int v)]) hx hb dJ7_fill_53178_4 rfl hl (by decide) rfl (fun ls hl => ?_)
  obtain ⟨i, ei⟩ : ∃ x : Int32, 0 = x := ⟨_, rfl⟩
  obtain ⟨z1, ez1⟩ : ∃ x : ZS, z = x := ⟨_, rfl⟩
  have hv5 : (0 ≤ i.toInt ∧ i.toInt ≤ 60) ∧ (∀ j : Nat, (j : Int) < i.toInt → z1.2.2.1 0 j = v) := by subst ei ez1; exact ⟨(by decide), (fun j hj => absurd hj z_no0)⟩
  replace hl : lv_has ls 4 [(3, .int 60), (2, .int i), (0, .ref (a 0)), (1, .int v)] := by subst ei ez1; exact hl
  replace hP : va_P (dC, dI) vwCl (zI60 k a z1) H := by subst ez1; exact hP
  clear ei ez1
  obtain ⟨mm5, hm5⟩ : ∃ mm : Nat, mm = (60 - i.toInt).toNat := ⟨_, rfl⟩
  refine z_cut2 hP hS hl ?_
  clear hl hP
  intro H locs ls hP hS hl
  induction mm5 using Nat.strongRecOn generalizing i z1 H locs ls with
  | _ mm5 ih5 =>
    obtain ⟨hi, hfl⟩ := hv5
    refine lv_iload_n hx hb dJ7_fill_53178_5 rfl (lv_at hl 1 rfl) ?_
    refine lv_iload_n hx hb dJ7_fill_53178_6 rfl (lv_at hl 0 rfl) ?_
    refine lv_icmp_ge (tgt := 20) hx hb dJ7_fill_53178_7 (by decide) (fun c_1 => ?_) (fun c_1 => ?_)
    · skip
      have hc_1 := zb_le (show (60 : Int32).toInt = 60 by decide) rfl c_1
      exact W.vret hx hb hr (fun t ht hW => ⟨⟨z1, rfl, (fun j hj => hfl j (by omega)), ⟨by rw [ht]; exact hP, hDa _⟩⟩, hS.F ht⟩) hS.2.2 dJ7_fill_53178_20
    · skip
      have hc_1 := zb_nle (show (60 : Int32).toInt = 60 by decide) rfl c_1
      refine lv_aload_n hx hb dJ7_fill_53178_10 rfl (lv_at hl 2 rfl) ?_
      refine lv_iload_n hx hb dJ7_fill_53178_11 rfl (lv_at hl 1 rfl) ?_
      refine lv_iload_n hx hb dJ7_fill_53178_12 rfl (lv_at hl 3 rfl) ?_
      refine va_iast (D := (dC, dI)) hx hb hK.1 hP (hDa _) hS 0 0 rfl rfl (z_in (by omega)) dJ7_fill_53178_13 (fun H locs hP _ hS => ?_)
      obtain ⟨f_2, ef_2⟩ : ∃ x : Nat → Int32, x = upd (z1.2.2.1 0) i.toNatClampNeg v := ⟨_, rfl⟩
      have hP : va_P (dC, dI) vwCl (zI60 k a (sA z1 0 f_2)) H := by rw [ef_2]; exact hP
      obtain ⟨x_3, ex_3⟩ : ∃ y : Int32, y = i + 1 := ⟨_, rfl⟩
      have hx_3 : x_3.toInt = i.toInt + 1 := z_add ex_3 rfl (show (1 : Int32).toInt = 1 by decide) (by omega)
      refine lv_iinc (v := x_3) (lv' := [(2, .int x_3), (3, .int 60), (0, .ref (a 0)), (1, .int v)]) hx hb dJ7_fill_53178_14 hl (k := 1) rfl (by rw [ex_3]; rfl) (by decide) rfl (fun ls hl => ?_)
      refine lv_goto (tgt := 5) hx hb dJ7_fill_53178_17 (by decide) ?_
      exact ih5 ((60 - x_3.toInt).toNat) (by omega) x_3 (sA z1 0 f_2) ⟨(show 0 ≤ x_3.toInt ∧ x_3.toInt ≤ 60 by omega), (fill_s hfl ef_2 hi.1 hx_3)⟩ rfl H locs ls hP hS (lv_sub hl [1, 0, 2, 3] rfl)
set_option maxHeartbeats 4000000 in
set_option maxRecDepth 100000 in
theorem c_J7_fill_d0a16_5 (l : Launch) (dC : Nat → ClassId) (dI : Nat → Nat → Nat) (k : Nat → ClassId) (a : Nat → Nat) (z : ZS) (v : Int64) (sz : Nat)  : Met l yJ7_fill_d0a16 (wz yJ7_fill_d0a16 cJ7_fill_d0a16 5 none) ({ frames := 0, cells := 0, slots := 0, locals := 0 }) (va_Pc [.ref (a 0), .long v] (zPre dC dI k (zTX k) (zJ5 k a z) sz)) (va_Qv (fun (u : ZS) => (∀ j : Nat, j < 5 → u.2.2.2 0 j = v)) (fun u t => zPost dC dI (va_A (zJ5 k a z) sz) (zJ5 k a u) t) (va_A (zJ5 k a z) sz)) 0 0 (va_A (zJ5 k a z) sz) := by
  refine Met.ofW (cc := cJ7_fill_d0a16) (maxL := 5) (ret := none) (by decide) rfl ?_
  intro p e s m args below meth c s₁ B hml hv
  obtain ⟨rfl, hsz, hP, hK, hD0⟩ := hv
  have hx := B.exec
  have hb := B.bytes
  have hr := B.returns
  have hts := atoms_spec (ws := wz yJ7_fill_d0a16 cJ7_fill_d0a16 5 none) B.pre
  have htb : ∀ w ∈ zw, w.before _ s = true := fun w h => hts w (List.mem_cons_of_mem _ h)
  have hown : s.vm.findClass RJ7 = some m.cls := findClass_of_methodNamed B.named
  have hlocks := B.notSynchronized
  clear hts
  subst hsz
  have hD := hD0.self (sz := s.heap.size)
  generalize hAe : va_A (zJ5 k a z) s.heap.size = A at hD ⊢
  have hA : ∀ q : Nat, s.heap.size ≤ q → A q := fun q h => by rw [← hAe]; exact Or.inr h
  have hDa : ∀ z9 : ZS, va_D A (zJ5 k a z9) := fun z9 => va_D_adr (w := zJ5 k a z) rfl hD
  have hl := lv_entry ([.ref (a 0), .long v]) (n := 5) (Nat.le_of_ble_eq_true rfl)
  rw [lg_entry_eq]
  generalize (lg_sl ([.ref (a 0), .long v]) ++ List.replicate (5 - (lg_sl ([.ref (a 0), .long v])).length) Slot.unset).toArray = ls at hl ⊢
  have hl : lv_has ls 5 [(0, .ref (a 0)), (1, .long v)] := hl
  refine z_start2 (A := A) (w := (zJ5 k a z)) hP (fun H locs hP hS => ?_)
  clear hD0 hAe
  refine lv_iconst (v := 0) hx hb dJ7_fill_d0a16_0 (by decide) ?_
  refine lv_istore_n (lv' := [(3, .int 0), (0, .ref (a 0)), (1, .long v)]) hx hb dJ7_fill_d0a16_1 rfl hl (by decide) rfl (fun ls hl => ?_)
  refine lv_aload_n hx hb dJ7_fill_d0a16_2 rfl (lv_at hl 1 rfl) ?_
  refine va_alen (D := (dC, dI)) (v := 5) hx hb hK.1 hP 0 1 rfl rfl rfl dJ7_fill_d0a16_3 ?_
  refine lv_istore (lv' := [(4, .int 5), (3, .int 0), (0, .ref (a 0)), (1, .long v)]) hx hb dJ7_fill_d0a16_4 hl (by decide) rfl (fun ls hl => ?_)
  obtain ⟨i, ei⟩ : ∃ x : Int32, 0 = x := ⟨_, rfl⟩
  obtain ⟨z1, ez1⟩ : ∃ x : ZS, z = x := ⟨_, rfl⟩
  have hv6 : (0 ≤ i.toInt ∧ i.toInt ≤ 5) ∧ (∀ j : Nat, (j : Int) < i.toInt → z1.2.2.2 0 j = v) := by subst ei ez1; exact ⟨(by decide), (fun j hj => absurd hj z_no0)⟩
  replace hl : lv_has ls 5 [(4, .int 5), (3, .int i), (0, .ref (a 0)), (1, .long v)] := by subst ei ez1; exact hl
  replace hP : va_P (dC, dI) vwCl (zJ5 k a z1) H := by subst ez1; exact hP
  clear ei ez1
  obtain ⟨mm6, hm6⟩ : ∃ mm : Nat, mm = (5 - i.toInt).toNat := ⟨_, rfl⟩
  refine z_cut2 hP hS hl ?_
  clear hl hP
  intro H locs ls hP hS hl
  induction mm6 using Nat.strongRecOn generalizing i z1 H locs ls with
  | _ mm6 ih6 =>
    obtain ⟨hi, hfl⟩ := hv6
    refine lv_iload_n hx hb dJ7_fill_d0a16_6 rfl (lv_at hl 1 rfl) ?_
    refine lv_iload hx hb dJ7_fill_d0a16_7 (lv_at hl 0 rfl) ?_
    refine lv_icmp_ge (tgt := 22) hx hb dJ7_fill_d0a16_9 (by decide) (fun c_1 => ?_) (fun c_1 => ?_)
    · skip
      have hc_1 := zb_le (show (5 : Int32).toInt = 5 by decide) rfl c_1
      exact W.vret hx hb hr (fun t ht hW => ⟨⟨z1, rfl, (fun j hj => hfl j (by omega)), ⟨by rw [ht]; exact hP, hDa _⟩⟩, hS.F ht⟩) hS.2.2 dJ7_fill_d0a16_22
    · skip
      have hc_1 := zb_nle (show (5 : Int32).toInt = 5 by decide) rfl c_1
      refine lv_aload_n hx hb dJ7_fill_d0a16_12 rfl (lv_at hl 2 rfl) ?_
      refine lv_iload_n hx hb dJ7_fill_d0a16_13 rfl (lv_at hl 1 rfl) ?_
      refine lv_lload_n hx hb dJ7_fill_d0a16_14 rfl (lv_at hl 3 rfl) ?_
      refine va_last (D := (dC, dI)) hx hb hK.1 hP (hDa _) hS 0 1 rfl rfl (z_in (by omega)) dJ7_fill_d0a16_15 (fun H locs hP _ hS => ?_)
      obtain ⟨f_2, ef_2⟩ : ∃ x : Nat → Int64, x = vp_updL (z1.2.2.2 0) i.toNatClampNeg v := ⟨_, rfl⟩
      have hP : va_P (dC, dI) vwCl (zJ5 k a (sL z1 0 f_2)) H := by rw [ef_2]; exact hP
      obtain ⟨x_3, ex_3⟩ : ∃ y : Int32, y = i + 1 := ⟨_, rfl⟩
      have hx_3 : x_3.toInt = i.toInt + 1 := z_add ex_3 rfl (show (1 : Int32).toInt = 1 by decide) (by omega)
      refine lv_iinc (v := x_3) (lv' := [(3, .int x_3), (4, .int 5), (0, .ref (a 0)), (1, .long v)]) hx hb dJ7_fill_d0a16_16 hl (k := 1) rfl (by rw [ex_3]; rfl) (by decide) rfl (fun ls hl => ?_)
      refine lv_goto (tgt := 6) hx hb dJ7_fill_d0a16_19 (by decide) ?_
      exact ih6 ((5 - x_3.toInt).toNat) (by omega) x_3 (sL z1 0 f_2) ⟨(show 0 ≤ x_3.toInt ∧ x_3.toInt ≤ 5 by omega), (fill_l hfl ef_2 hi.1 hx_3)⟩ rfl H locs ls hP hS (lv_sub hl [1, 0, 2, 3] rfl)
set_option maxHeartbeats 4000000 in
set_option maxRecDepth 100000 in
theorem c_J7_fill_d0a16_13 (l : Launch) (dC : Nat → ClassId) (dI : Nat → Nat → Nat) (k : Nat → ClassId) (a : Nat → Nat) (z : ZS) (v : Int64) (sz : Nat)  : Met l yJ7_fill_d0a16 (wz yJ7_fill_d0a16 cJ7_fill_d0a16 5 none) ({ frames := 0, cells := 0, slots := 0, locals := 0 }) (va_Pc [.ref (a 0), .long v] (zPre dC dI k (zTX k) (zJ13 k a z) sz)) (va_Qv (fun (u : ZS) => (∀ j : Nat, j < 13 → u.2.2.2 0 j = v)) (fun u t => zPost dC dI (va_A (zJ13 k a z) sz) (zJ13 k a u) t) (va_A (zJ13 k a z) sz)) 0 0 (va_A (zJ13 k a z) sz) := by
  refine Met.ofW (cc := cJ7_fill_d0a16) (maxL := 5) (ret := none) (by decide) rfl ?_
  intro p e s m args below meth c s₁ B hml hv
  obtain ⟨rfl, hsz, hP, hK, hD0⟩ := hv
  have hx := B.exec
  have hb := B.bytes
  have hr := B.returns
  have hts := atoms_spec (ws := wz yJ7_fill_d0a16 cJ7_fill_d0a16 5 none) B.pre
  have htb : ∀ w ∈ zw, w.before _ s = true := fun w h => hts w (List.mem_cons_of_mem _ h)
  have hown : s.vm.findClass RJ7 = some m.cls := findClass_of_methodNamed B.named
  have hlocks := B.notSynchronized
  clear hts
  subst hsz
  have hD := hD0.self (sz := s.heap.size)
  generalize hAe : va_A (zJ13 k a z) s.heap.size = A at hD ⊢
  have hA : ∀ q : Nat, s.heap.size ≤ q → A q := fun q h => by rw [← hAe]; exact Or.inr h
  have hDa : ∀ z9 : ZS, va_D A (zJ13 k a z9) := fun z9 => va_D_adr (w := zJ13 k a z) rfl hD
  have hl := lv_entry ([.ref (a 0), .long v]) (n := 5) (Nat.le_of_ble_eq_true rfl)
  rw [lg_entry_eq]
  generalize (lg_sl ([.ref (a 0), .long v]) ++ List.replicate (5 - (lg_sl ([.ref (a 0), .long v])).length) Slot.unset).toArray = ls at hl ⊢
  have hl : lv_has ls 5 [(0, .ref (a 0)), (1, .long v)] := hl
  refine z_start2 (A := A) (w := (zJ13 k a z)) hP (fun H locs hP hS => ?_)
  clear hD0 hAe
  refine lv_iconst (v := 0) hx hb dJ7_fill_d0a16_0 (by decide) ?_
  refine lv_istore_n (lv' := [(3, .int 0), (0, .ref (a 0)), (1, .long v)]) hx hb dJ7_fill_d0a16_1 rfl hl (by decide) rfl (fun ls hl => ?_)
  refine lv_aload_n hx hb dJ7_fill_d0a16_2 rfl (lv_at hl 1 rfl) ?_
  refine va_alen (D := (dC, dI)) (v := 13) hx hb hK.1 hP 0 1 rfl rfl rfl dJ7_fill_d0a16_3 ?_
  refine lv_istore (lv' := [(4, .int 13), (3, .int 0), (0, .ref (a 0)), (1, .long v)]) hx hb dJ7_fill_d0a16_4 hl (by decide) rfl (fun ls hl => ?_)
  obtain ⟨i, ei⟩ : ∃ x : Int32, 0 = x := ⟨_, rfl⟩
  obtain ⟨z1, ez1⟩ : ∃ x : ZS, z = x := ⟨_, rfl⟩
  have hv6 : (0 ≤ i.toInt ∧ i.toInt ≤ 13) ∧ (∀ j : Nat, (j : Int) < i.toInt → z1.2.2.2 0 j = v) := by subst ei ez1; exact ⟨(by decide), (fun j hj => absurd hj z_no0)⟩
  replace hl : lv_has ls 5 [(4, .int 13), (3, .int i), (0, .ref (a 0)), (1, .long v)] := by subst ei ez1; exact hl
  replace hP : va_P (dC, dI) vwCl (zJ13 k a z1) H := by subst ez1; exact hP
  clear ei ez1
  obtain ⟨mm6, hm6⟩ : ∃ mm : Nat, mm = (13 - i.toInt).toNat := ⟨_, rfl⟩
  refine z_cut2 hP hS hl ?_
  clear hl hP
  intro H locs ls hP hS hl
  induction mm6 using Nat.strongRecOn generalizing i z1 H locs ls with
  | _ mm6 ih6 =>
    obtain ⟨hi, hfl⟩ := hv6
    refine lv_iload_n hx hb dJ7_fill_d0a16_6 rfl (lv_at hl 1 rfl) ?_
    refine lv_iload hx hb dJ7_fill_d0a16_7 (lv_at hl 0 rfl) ?_
    refine lv_icmp_ge (tgt := 22) hx hb dJ7_fill_d0a16_9 (by decide) (fun c_1 => ?_) (fun c_1 => ?_)
    · skip
      have hc_1 := zb_le (show (13 : Int32).toInt = 13 by decide) rfl c_1
      exact W.vret hx hb hr (fun t ht hW => ⟨⟨z1, rfl, (fun j hj => hfl j (by omega)), ⟨by rw [ht]; exact hP, hDa _⟩⟩, hS.F ht⟩) hS.2.2 dJ7_fill_d0a16_22
    · skip
      have hc_1 := zb_nle (show (13 : Int32).toInt = 13 by decide) rfl c_1
      refine lv_aload_n hx hb dJ7_fill_d0a16_12 rfl (lv_at hl 2 rfl) ?_
      refine lv_iload_n hx hb dJ7_fill_d0a16_13 rfl (lv_at hl 1 rfl) ?_
      refine lv_lload_n hx hb dJ7_fill_d0a16_14 rfl (lv_at hl 3 rfl) ?_
      refine va_last (D := (dC, dI)) hx hb hK.1 hP (hDa _) hS 0 1 rfl rfl (z_in (by omega)) dJ7_fill_d0a16_15 (fun H locs hP _ hS => ?_)
      obtain ⟨f_2, ef_2⟩ : ∃ x : Nat → Int64, x = vp_updL (z1.2.2.2 0) i.toNatClampNeg v := ⟨_, rfl⟩
      have hP : va_P (dC, dI) vwCl (zJ13 k a (sL z1 0 f_2)) H := by rw [ef_2]; exact hP
      obtain ⟨x_3, ex_3⟩ : ∃ y : Int32, y = i + 1 := ⟨_, rfl⟩
      have hx_3 : x_3.toInt = i.toInt + 1 := z_add ex_3 rfl (show (1 : Int32).toInt = 1 by decide) (by omega)
      refine lv_iinc (v := x_3) (lv' := [(3, .int x_3), (4, .int 13), (0, .ref (a 0)), (1, .long v)]) hx hb dJ7_fill_d0a16_16 hl (k := 1) rfl (by rw [ex_3]; rfl) (by decide) rfl (fun ls hl => ?_)
      refine lv_goto (tgt := 6) hx hb dJ7_fill_d0a16_19 (by decide) ?_
      exact ih6 ((13 - x_3.toInt).toNat) (by omega) x_3 (sL z1 0 f_2) ⟨(show 0 ≤ x_3.toInt ∧ x_3.toInt ≤ 13 by omega), (fill_l hfl ef_2 hi.1 hx_3)⟩ rfl H locs ls hP hS (lv_sub hl [1, 0, 2, 3] rfl)
