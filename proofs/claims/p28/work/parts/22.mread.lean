set_option maxHeartbeats 4000000 in
set_option maxRecDepth 100000 in
theorem c_X7_byteNow (l : Launch) (dC : Nat → ClassId) (dI : Nat → Nat → Nat) (k : Nat → ClassId) (q : Nat → Nat) (z : ZS) (sz : Nat) (hdn : 0 ≤ (z.1 12).toInt ∧ (z.1 12).toInt < 4) (hm4 : M4 (z.2.2.1 2)) (hat : 0 ≤ (z.1 13).toInt ∧ (z.1 13).toInt ≤ 1000) : Met l yX7_byteNow (wz yX7_byteNow cX7_byteNow 1 (some .int)) ({ frames := 0, cells := 0, slots := 0, locals := 0 }) (va_Pc [.ref (q 0)] (zPre dC dI k (zTX k) (zM k q z) sz)) (va_Qi (fun (r : Int32) (u : Unit) => ((z.1 13).toInt < (z.2.2.1 2 (z.1 12).toNatClampNeg).toInt ∨ r.toInt = -1) ∧ (r.toInt = bN (z.1 13) (z.1 12) (z.2.2.1 2) (z.2.2.1 3))) (fun u t => zPost dC dI (va_A (zM k q z) sz) (zM k q z) t) (va_A (zM k q z) sz)) 0 0 (va_A (zM k q z) sz) := by
  refine Met.ofW (cc := cX7_byteNow) (maxL := 1) (ret := (some .int)) (by decide) rfl ?_
  intro p e s m args below meth c s₁ B hml hv
  obtain ⟨rfl, hsz, hP, hK, hD0⟩ := hv
  have hx := B.exec
  have hb := B.bytes
  have hr := B.returns
  have hts := atoms_spec (ws := wz yX7_byteNow cX7_byteNow 1 (some .int)) B.pre
  have htb : ∀ w ∈ zw, w.before _ s = true := fun w h => hts w (List.mem_cons_of_mem _ h)
  have hown : s.vm.findClass RX7 = some m.cls := findClass_of_methodNamed B.named
  have hlocks := B.notSynchronized
  clear hts
  subst hsz
  have hD := hD0.self (sz := s.heap.size)
  generalize hAe : va_A (zM k q z) s.heap.size = A at hD ⊢
  have hA : ∀ q : Nat, s.heap.size ≤ q → A q := fun q h => by rw [← hAe]; exact Or.inr h
  have hDa : ∀ z9 : ZS, va_D A (zM k q z9) := fun z9 => va_D_adr (w := zM k q z) rfl hD
  have hl := lv_entry ([.ref (q 0)]) (n := 1) (Nat.le_of_ble_eq_true rfl)
  rw [lg_entry_eq]
  generalize (lg_sl ([.ref (q 0)]) ++ List.replicate (1 - (lg_sl ([.ref (q 0)])).length) Slot.unset).toArray = ls at hl ⊢
  have hl : lv_has ls 1 [(0, .ref (q 0))] := hl
  refine z_start2 (A := A) (w := (zM k q z)) hP (fun H locs hP hS => ?_)
  clear hD0 hAe
  have hty := M4_at hm4 hdn
  refine lv_aload_n hx hb dX7_byteNow_0 rfl (lv_at hl 0 rfl) ?_
  refine va_get (D := (dC, dI)) (ci := 7) (v := .int (z.1 13)) (C := RX7) (T := TX7) (N := 42) hx hb htb inw7 hown hK.1 hP 0 rfl rfl 13 (by decide) (htb _ wmt3_180) (fun _ h9 => h9) rfl dX7_byteNow_1 ?_
  refine lv_topi (fun x_1 ex_1 => ?_)
  have hx_1 : x_1.toInt = (z.1 13).toInt := by rw [ex_1]
  refine lv_aload_n hx hb dX7_byteNow_4 rfl (lv_at hl 0 rfl) ?_
  refine va_get (D := (dC, dI)) (ci := 7) (v := .ref (q 2)) (C := RX7) (T := TX7) (N := 42) hx hb htb inw7 hown hK.1 hP 0 rfl rfl 2 (by decide) (htb _ wmt3_169) (fun _ h9 => h9) rfl dX7_byteNow_5 ?_
  refine lv_aload_n hx hb dX7_byteNow_8 rfl (lv_at hl 0 rfl) ?_
  refine va_get (D := (dC, dI)) (ci := 7) (v := .int (z.1 12)) (C := RX7) (T := TX7) (N := 42) hx hb htb inw7 hown hK.1 hP 0 rfl rfl 12 (by decide) (htb _ wmt3_179) (fun _ h9 => h9) rfl dX7_byteNow_9 ?_
  refine lv_topi (fun x_2 ex_2 => ?_)
  have hx_2 : x_2.toInt = (z.1 12).toInt := by rw [ex_2]
  refine va_iald (D := (dC, dI)) hx hb hK.1 hP 1 0 rfl rfl (z_in (by omega)) dX7_byteNow_12 ?_
  refine lv_topi (fun x_3 ex_3 => ?_)
  have hx_3 : x_3.toInt = (z.2.2.1 2 (z.1 12).toNatClampNeg).toInt := by rw [ex_3, ex_2]
  refine lv_icmp_ge (tgt := 36) hx hb dX7_byteNow_13 (by decide) (fun c_4 => ?_) (fun c_4 => ?_)
  · skip
    have hc_4 := zb_le rfl rfl c_4
    refine lv_iconst (v := (-1)) hx hb dX7_byteNow_36 (by decide) ?_
    exact W.iret (v := (-1)) hx hb hr (fun t ht hW => ⟨⟨(-1), (), rfl, ⟨Or.inr (by decide), by unfold bN; rw [if_neg (by omega)]; decide⟩, ⟨by rw [ht]; exact hP, hDa _⟩⟩, hS.F ht⟩) hS.2.2 dX7_byteNow_37
  · skip
    have hc_4 := zb_nle rfl rfl c_4
    refine lv_aload_n hx hb dX7_byteNow_16 rfl (lv_at hl 0 rfl) ?_
    refine va_get (D := (dC, dI)) (ci := 7) (v := .ref (q 3)) (C := RX7) (T := TX7) (N := 42) hx hb htb inw7 hown hK.1 hP 0 rfl rfl 3 (by decide) (htb _ wmt3_170) (fun _ h9 => h9) rfl dX7_byteNow_17 ?_
    refine lv_bipush (v := 60) hx hb dX7_byteNow_20 (by decide) ?_
    refine lv_aload_n hx hb dX7_byteNow_22 rfl (lv_at hl 0 rfl) ?_
    refine va_get (D := (dC, dI)) (ci := 7) (v := .int (z.1 12)) (C := RX7) (T := TX7) (N := 42) hx hb htb inw7 hown hK.1 hP 0 rfl rfl 12 (by decide) (htb _ wmt3_179) (fun _ h9 => h9) rfl dX7_byteNow_23 ?_
    refine z_top (v2 := .int x_2) (congrArg Value.int ex_2.symm) ?_
    refine lv_imul hx hb dX7_byteNow_26 ?_
    refine lv_topi (fun x_5 ex_5 => ?_)
    have hx_5 := z_mul ex_5 (show (60 : Int32).toInt = 60 by decide) rfl (by omega)
    refine lv_aload_n hx hb dX7_byteNow_27 rfl (lv_at hl 0 rfl) ?_
    refine va_get (D := (dC, dI)) (ci := 7) (v := .int (z.1 13)) (C := RX7) (T := TX7) (N := 42) hx hb htb inw7 hown hK.1 hP 0 rfl rfl 13 (by decide) (htb _ wmt3_180) (fun _ h9 => h9) rfl dX7_byteNow_28 ?_
    refine z_top (v2 := .int x_1) (congrArg Value.int ex_1.symm) ?_
    refine lv_iadd hx hb dX7_byteNow_31 ?_
    refine lv_topi (fun x_6 ex_6 => ?_)
    have hx_6 := z_add ex_6 rfl rfl (by omega)
    refine va_iald (D := (dC, dI)) hx hb hK.1 hP 2 0 rfl rfl (z_in (by omega)) dX7_byteNow_32 ?_
    refine lv_topi (fun x_7 ex_7 => ?_)
    refine lv_goto (tgt := 37) hx hb dX7_byteNow_33 (by decide) ?_
    exact W.iret (v := x_7) hx hb hr (fun t ht hW => ⟨⟨x_7, (), rfl, ⟨Or.inl (by omega), by have q := z_clamp (x := x_6) (by omega); unfold bN; rw [if_pos (by omega), ex_7, show x_6.toNatClampNeg = (60 * (z.1 12).toInt + (z.1 13).toInt).toNat by omega]⟩, ⟨by rw [ht]; exact hP, hDa _⟩⟩, hS.F ht⟩) hS.2.2 dX7_byteNow_37
set_option maxHeartbeats 4000000 in
set_option maxRecDepth 100000 in
theorem c_X7_number (l : Launch) (dC : Nat → ClassId) (dI : Nat → Nat → Nat) (k : Nat → ClassId) (q : Nat → Nat) (z : ZS) (lo : Int32) (hi : Int32) (sz : Nat) (hdn : 0 ≤ (z.1 12).toInt ∧ (z.1 12).toInt < 4) (hm4 : M4 (z.2.2.1 2)) (hat : 0 ≤ (z.1 13).toInt ∧ (z.1 13).toInt ≤ 900) : Met l yX7_number (wz yX7_number cX7_number 5 (some .int)) ({ frames := 1, cells := 0, slots := 0, locals := 22 }) (va_Pc [.ref (q 0), .int lo, .int hi] (zPre dC dI k (zTX k) (zM k q z) sz)) (va_Qi (fun (r : Int32) (u : Int32 × Int32) => (0 ≤ r.toInt ∧ r.toInt ≤ 99) ∧ ((z.1 13).toInt ≤ u.1.toInt ∧ u.1.toInt ≤ (z.1 13).toInt + 2) ∧ ((z.1 14).toInt = -1 ∨ u.2 = z.1 14) ∧ (u.2.toInt = -1 → (z.1 14).toInt = -1 ∧ (z.1 13).toInt < u.1.toInt ∧ u.1.toInt ≤ (z.2.2.1 2 (z.1 12).toNatClampNeg).toInt ∧ lo.toInt ≤ r.toInt ∧ r.toInt ≤ hi.toInt)) (fun u t => zPost dC dI (va_A (zM k q z) sz) (zM k q (sI (sI z 13 u.1) 14 u.2)) t) (va_A (zM k q z) sz)) 0 0 (va_A (zM k q z) sz) := by
  refine Met.ofW (cc := cX7_number) (maxL := 5) (ret := (some .int)) (by decide) rfl ?_
  intro p e s m args below meth c s₁ B hml hv
  obtain ⟨rfl, hsz, hP, hK, hD0⟩ := hv
  have hx := B.exec
  have hb := B.bytes
  have hr := B.returns
  have hts := atoms_spec (ws := wz yX7_number cX7_number 5 (some .int)) B.pre
  have htb : ∀ w ∈ zw, w.before _ s = true := fun w h => hts w (List.mem_cons_of_mem _ h)
  have hown : s.vm.findClass RX7 = some m.cls := findClass_of_methodNamed B.named
  have hlocks := B.notSynchronized
  clear hts
  subst hsz
  have hD := hD0.self (sz := s.heap.size)
  generalize hAe : va_A (zM k q z) s.heap.size = A at hD ⊢
  have hA : ∀ q : Nat, s.heap.size ≤ q → A q := fun q h => by rw [← hAe]; exact Or.inr h
  have hDa : ∀ z9 : ZS, va_D A (zM k q z9) := fun z9 => va_D_adr (w := zM k q z) rfl hD
  have hl := lv_entry ([.ref (q 0), .int lo, .int hi]) (n := 5) (Nat.le_of_ble_eq_true rfl)
  rw [lg_entry_eq]
  generalize (lg_sl ([.ref (q 0), .int lo, .int hi]) ++ List.replicate (5 - (lg_sl ([.ref (q 0), .int lo, .int hi])).length) Slot.unset).toArray = ls at hl ⊢
  have hl : lv_has ls 5 [(0, .ref (q 0)), (1, .int lo), (2, .int hi)] := hl
  refine z_start2 (A := A) (w := (zM k q z)) hP (fun H locs hP hS => ?_)
  clear hD0 hAe
  have hty := M4_at hm4 hdn
  refine lv_aload_n hx hb dX7_number_0 rfl (lv_at hl 0 rfl) ?_
  refine va_get (D := (dC, dI)) (ci := 7) (v := .int (z.1 13)) (C := RX7) (T := TX7) (N := 42) hx hb htb inw7 hown hK.1 hP 0 rfl rfl 13 (by decide) (htb _ wmt3_180) (fun _ h9 => h9) rfl dX7_number_1 ?_
  refine lv_topi (fun x_1 ex_1 => ?_)
  have hx_1 : x_1.toInt = (z.1 13).toInt := by rw [ex_1]
  refine lv_istore_n (lv' := [(3, .int x_1), (0, .ref (q 0)), (1, .int lo), (2, .int hi)]) hx hb dX7_number_4 rfl hl (by decide) rfl (fun ls hl => ?_)
  refine lv_iconst (v := 0) hx hb dX7_number_5 (by decide) ?_
  refine lv_istore (lv' := [(4, .int 0), (3, .int x_1), (0, .ref (q 0)), (1, .int lo), (2, .int hi)]) hx hb dX7_number_6 hl (by decide) rfl (fun ls hl => ?_)
  obtain ⟨v, ev⟩ : ∃ x : Int32, 0 = x := ⟨_, rfl⟩
  obtain ⟨at1, eat1⟩ : ∃ x : Int32, z.1 13 = x := ⟨_, rfl⟩
  have hv8 : (0 ≤ v.toInt ∧ (at1.toInt = (z.1 13).toInt → v.toInt = 0) ∧ (at1.toInt = (z.1 13).toInt + 1 → v.toInt ≤ 9) ∧ v.toInt ≤ 99) ∧ ((z.1 13).toInt ≤ at1.toInt ∧ at1.toInt ≤ (z.1 13).toInt + 2) ∧ ((z.1 13).toInt < at1.toInt → at1.toInt ≤ (z.2.2.1 2 (z.1 12).toNatClampNeg).toInt) := by subst ev eat1; exact ⟨⟨by decide, fun _ => by decide, fun _ => by decide, by decide⟩, ⟨Int.le_refl _, by omega⟩, (fun q => absurd q (Int.lt_irrefl _))⟩
  replace hl : lv_has ls 5 [(4, .int v), (3, .int x_1), (0, .ref (q 0)), (1, .int lo), (2, .int hi)] := by subst ev eat1; exact hl
  replace hP : va_P (dC, dI) vwCl (zM k q (sI z 13 at1)) H := by subst eat1; exact hP
  clear ev eat1
  obtain ⟨mm8, hm8⟩ : ∃ mm : Nat, mm = ((z.1 13).toInt + 2 - at1.toInt).toNat := ⟨_, rfl⟩
  refine z_cut2 hP hS hl ?_
  clear hl hP
  intro H locs ls hP hS hl
  induction mm8 using Nat.strongRecOn generalizing v at1 H locs ls with
  | _ mm8 ih8 =>
    obtain ⟨hv, ha, ht⟩ := hv8
    refine lv_aload_n hx hb dX7_number_8 rfl (lv_at hl 2 rfl) ?_
    refine va_get (D := (dC, dI)) (ci := 7) (v := .int (z.1 14)) (C := RX7) (T := TX7) (N := 42) hx hb htb inw7 hown hK.1 hP 0 rfl rfl 14 (by decide) (htb _ wmt3_181) (fun _ h9 => h9) rfl dX7_number_9 ?_
    refine lv_topi (fun x_2 ex_2 => ?_)
    have hx_2 : x_2.toInt = (z.1 14).toInt := by rw [ex_2]
    refine lv_iconst (v := (-1)) hx hb dX7_number_12 (by decide) ?_
    refine lv_icmp_ne (tgt := 72) hx hb dX7_number_13 (by decide) (fun c_3 => ?_) (fun c_3 => ?_)
    · skip
      have hc_3 := zb_ne rfl (show ((-1) : Int32).toInt = (-1) by decide) c_3
      refine lv_aload_n hx hb dX7_number_72 rfl (lv_at hl 2 rfl) ?_
      refine va_get (D := (dC, dI)) (ci := 7) (v := .int (z.1 14)) (C := RX7) (T := TX7) (N := 42) hx hb htb inw7 hown hK.1 hP 0 rfl rfl 14 (by decide) (htb _ wmt3_181) (fun _ h9 => h9) rfl dX7_number_73 ?_
      refine z_top (v2 := .int x_2) (congrArg Value.int ex_2.symm) ?_
      refine lv_iconst (v := (-1)) hx hb dX7_number_76 (by decide) ?_
      refine lv_icmp_ne (tgt := 103) hx hb dX7_number_77 (by decide) (fun c_4 => ?_) (fun c_4 => ?_)
      · skip
        have hc_4 := zb_ne rfl (show ((-1) : Int32).toInt = (-1) by decide) c_4
        refine lv_iload hx hb dX7_number_103 (lv_at hl 0 rfl) ?_
        exact W.iret (v := v) hx hb hr (fun t ht hW => ⟨⟨v, (at1, z.1 14), rfl, (show (0 ≤ v.toInt ∧ v.toInt ≤ 99) ∧ ((z.1 13).toInt ≤ at1.toInt ∧ at1.toInt ≤ (z.1 13).toInt + 2) ∧ ((z.1 14).toInt = -1 ∨ (z.1 14) = z.1 14) ∧ ((z.1 14).toInt = -1 → (z.1 14).toInt = -1 ∧ (z.1 13).toInt < at1.toInt ∧ at1.toInt ≤ (z.2.2.1 2 (z.1 12).toNatClampNeg).toInt ∧ lo.toInt ≤ v.toInt ∧ v.toInt ≤ hi.toInt) from ⟨by omega, by omega, by first | (left; omega) | (right; rfl), fun q9 => by omega⟩), ⟨by rw [ht]; exact hP, hDa _⟩⟩, hS.F ht⟩) hS.2.2 dX7_number_105
      · skip
        have hc_4 := zb_eq rfl (show ((-1) : Int32).toInt = (-1) by decide) c_4
        refine lv_aload_n hx hb dX7_number_80 rfl (lv_at hl 2 rfl) ?_
        refine va_get (D := (dC, dI)) (ci := 7) (v := .int at1) (C := RX7) (T := TX7) (N := 42) hx hb htb inw7 hown hK.1 hP 0 rfl rfl 13 (by decide) (htb _ wmt3_180) (fun _ h9 => h9) rfl dX7_number_81 ?_
        refine lv_iload_n hx hb dX7_number_84 rfl (lv_at hl 1 rfl) ?_
        refine lv_icmp_eq (tgt := 98) hx hb dX7_number_85 (by decide) (fun c_5 => ?_) (fun c_5 => ?_)
        · skip
          have hc_5 := zb_eq rfl rfl c_5
          refine lv_aload_n hx hb dX7_number_98 rfl (lv_at hl 2 rfl) ?_
          refine lv_iload_n hx hb dX7_number_99 rfl (lv_at hl 1 rfl) ?_
          refine va_put (D := (dC, dI)) (ci := 7) (v := .int x_1) (ty := .int) (C := RX7) (T := TX7) (N := 42) hx hb htb inw7 tyX7 tyX7_ok nmX7 hown hK.1 hP (hDa _) hS 0 rfl rfl 14 (by decide) (htb _ wmt3_181) (fun _ h9 => h9) rfl (by decide +kernel) rfl rfl (Nat.le_of_ble_eq_true rfl) dX7_number_100 (fun H locs hP _ hS => ?_)
          have hP : va_P (dC, dI) vwCl (zM k q (sI (sI z 13 at1) 14 x_1)) H := hP
          refine lv_iload hx hb dX7_number_103 (lv_at hl 0 rfl) ?_
          exact W.iret (v := v) hx hb hr (fun t ht hW => ⟨⟨v, (at1, x_1), rfl, (show (0 ≤ v.toInt ∧ v.toInt ≤ 99) ∧ ((z.1 13).toInt ≤ at1.toInt ∧ at1.toInt ≤ (z.1 13).toInt + 2) ∧ ((z.1 14).toInt = -1 ∨ x_1 = z.1 14) ∧ (x_1.toInt = -1 → (z.1 14).toInt = -1 ∧ (z.1 13).toInt < at1.toInt ∧ at1.toInt ≤ (z.2.2.1 2 (z.1 12).toNatClampNeg).toInt ∧ lo.toInt ≤ v.toInt ∧ v.toInt ≤ hi.toInt) from ⟨by omega, by omega, by first | (left; omega) | (right; rfl), fun q9 => by omega⟩), ⟨by rw [ht]; exact hP, hDa _⟩⟩, hS.F ht⟩) hS.2.2 dX7_number_105
        · skip
          have hc_5 := zb_ne rfl rfl c_5
          refine lv_iload hx hb dX7_number_88 (lv_at hl 0 rfl) ?_
          refine lv_iload_n hx hb dX7_number_90 rfl (lv_at hl 3 rfl) ?_
          refine lv_iload_n hx hb dX7_number_91 rfl (lv_at hl 4 rfl) ?_
          refine zc0_i (w := (zM k q (sI z 13 at1))) (va_runS (As := [.int v, .int lo, .int hi]) (rest := []) ⟨hx, hb, hml, hown, htb⟩ (c_X7_in l dC dI k v lo hi _ ) (va_cwS 3 htb (gzS wmt4_62 wmt4_63 wmt1_8 wmt4_64) rfl rfl rfl (by decide +kernel) ⟨Nat.le_of_ble_eq_true rfl, Nat.le_of_ble_eq_true rfl⟩) (zp0_S hK) rfl rfl hl.1 rfl (lv_room (Nat.le_of_ble_eq_true rfl)) dX7_number_92 ⟨Nat.le_of_ble_eq_true rfl, Nat.le_of_ble_eq_true rfl⟩) hP hS hA (fun r_6 u_7 H locs w_8 hP hS => ?_)
          rcases w_8 with ⟨e_10, h_9⟩ | ⟨e_12, h_11⟩
          · skip
            replace e_10 : r_6 = 1 := e_10
            subst e_10
            replace h_9 : lo.toInt ≤ v.toInt ∧ v.toInt ≤ hi.toInt := h_9
            refine lv_if_ne (tgt := 103) hx hb dX7_number_95 (by decide) (fun c_13 => ?_) (fun c_13 => ?_)
            · skip
              refine lv_iload hx hb dX7_number_103 (lv_at hl 0 rfl) ?_
              exact W.iret (v := v) hx hb hr (fun t ht hW => ⟨⟨v, (at1, z.1 14), rfl, (show (0 ≤ v.toInt ∧ v.toInt ≤ 99) ∧ ((z.1 13).toInt ≤ at1.toInt ∧ at1.toInt ≤ (z.1 13).toInt + 2) ∧ ((z.1 14).toInt = -1 ∨ (z.1 14) = z.1 14) ∧ ((z.1 14).toInt = -1 → (z.1 14).toInt = -1 ∧ (z.1 13).toInt < at1.toInt ∧ at1.toInt ≤ (z.2.2.1 2 (z.1 12).toNatClampNeg).toInt ∧ lo.toInt ≤ v.toInt ∧ v.toInt ≤ hi.toInt) from ⟨by omega, by omega, by first | (left; omega) | (right; rfl), fun q9 => by omega⟩), ⟨by rw [ht]; exact hP, hDa _⟩⟩, hS.F ht⟩) hS.2.2 dX7_number_105
            · skip
              exact absurd c_13 (by decide)
          · skip
            replace e_12 : r_6 = 0 := e_12
            subst e_12
            replace h_11 : ¬ (lo.toInt ≤ v.toInt ∧ v.toInt ≤ hi.toInt) := h_11
            refine lv_if_ne (tgt := 103) hx hb dX7_number_95 (by decide) (fun c_14 => ?_) (fun c_14 => ?_)
            · skip
              exact absurd c_14 (by decide)
            · skip
              refine lv_aload_n hx hb dX7_number_98 rfl (lv_at hl 2 rfl) ?_
              refine lv_iload_n hx hb dX7_number_99 rfl (lv_at hl 1 rfl) ?_
              refine va_put (D := (dC, dI)) (ci := 7) (v := .int x_1) (ty := .int) (C := RX7) (T := TX7) (N := 42) hx hb htb inw7 tyX7 tyX7_ok nmX7 hown hK.1 hP (hDa _) hS 0 rfl rfl 14 (by decide) (htb _ wmt3_181) (fun _ h9 => h9) rfl (by decide +kernel) rfl rfl (Nat.le_of_ble_eq_true rfl) dX7_number_100 (fun H locs hP _ hS => ?_)
              have hP : va_P (dC, dI) vwCl (zM k q (sI (sI z 13 at1) 14 x_1)) H := hP
              refine lv_iload hx hb dX7_number_103 (lv_at hl 0 rfl) ?_
              exact W.iret (v := v) hx hb hr (fun t ht hW => ⟨⟨v, (at1, x_1), rfl, (show (0 ≤ v.toInt ∧ v.toInt ≤ 99) ∧ ((z.1 13).toInt ≤ at1.toInt ∧ at1.toInt ≤ (z.1 13).toInt + 2) ∧ ((z.1 14).toInt = -1 ∨ x_1 = z.1 14) ∧ (x_1.toInt = -1 → (z.1 14).toInt = -1 ∧ (z.1 13).toInt < at1.toInt ∧ at1.toInt ≤ (z.2.2.1 2 (z.1 12).toNatClampNeg).toInt ∧ lo.toInt ≤ v.toInt ∧ v.toInt ≤ hi.toInt) from ⟨by omega, by omega, by first | (left; omega) | (right; rfl), fun q9 => by omega⟩), ⟨by rw [ht]; exact hP, hDa _⟩⟩, hS.F ht⟩) hS.2.2 dX7_number_105
    · skip
      have hc_3 := zb_eq rfl (show ((-1) : Int32).toInt = (-1) by decide) c_3
      refine lv_aload_n hx hb dX7_number_16 rfl (lv_at hl 2 rfl) ?_
      refine va_get (D := (dC, dI)) (ci := 7) (v := .int at1) (C := RX7) (T := TX7) (N := 42) hx hb htb inw7 hown hK.1 hP 0 rfl rfl 13 (by decide) (htb _ wmt3_180) (fun _ h9 => h9) rfl dX7_number_17 ?_
      refine lv_iload_n hx hb dX7_number_20 rfl (lv_at hl 1 rfl) ?_
      refine lv_iconst (v := 2) hx hb dX7_number_21 (by decide) ?_
      refine lv_iadd hx hb dX7_number_22 ?_
      refine lv_topi (fun x_15 ex_15 => ?_)
      have hx_15 := z_add ex_15 rfl (show (2 : Int32).toInt = 2 by decide) (by omega)
      refine lv_icmp_ge (tgt := 72) hx hb dX7_number_23 (by decide) (fun c_16 => ?_) (fun c_16 => ?_)
      · skip
        have hc_16 := zb_le rfl rfl c_16
        refine lv_aload_n hx hb dX7_number_72 rfl (lv_at hl 2 rfl) ?_
        refine va_get (D := (dC, dI)) (ci := 7) (v := .int (z.1 14)) (C := RX7) (T := TX7) (N := 42) hx hb htb inw7 hown hK.1 hP 0 rfl rfl 14 (by decide) (htb _ wmt3_181) (fun _ h9 => h9) rfl dX7_number_73 ?_
        refine z_top (v2 := .int x_2) (congrArg Value.int ex_2.symm) ?_
        refine lv_iconst (v := (-1)) hx hb dX7_number_76 (by decide) ?_
        refine lv_icmp_ne (tgt := 103) hx hb dX7_number_77 (by decide) (fun c_17 => ?_) (fun c_17 => ?_)
        · skip
          have hc_17 := zb_ne rfl (show ((-1) : Int32).toInt = (-1) by decide) c_17
          refine lv_iload hx hb dX7_number_103 (lv_at hl 0 rfl) ?_
          exact W.iret (v := v) hx hb hr (fun t ht hW => ⟨⟨v, (at1, z.1 14), rfl, (show (0 ≤ v.toInt ∧ v.toInt ≤ 99) ∧ ((z.1 13).toInt ≤ at1.toInt ∧ at1.toInt ≤ (z.1 13).toInt + 2) ∧ ((z.1 14).toInt = -1 ∨ (z.1 14) = z.1 14) ∧ ((z.1 14).toInt = -1 → (z.1 14).toInt = -1 ∧ (z.1 13).toInt < at1.toInt ∧ at1.toInt ≤ (z.2.2.1 2 (z.1 12).toNatClampNeg).toInt ∧ lo.toInt ≤ v.toInt ∧ v.toInt ≤ hi.toInt) from ⟨by omega, by omega, by first | (left; omega) | (right; rfl), fun q9 => by omega⟩), ⟨by rw [ht]; exact hP, hDa _⟩⟩, hS.F ht⟩) hS.2.2 dX7_number_105
        · skip
          have hc_17 := zb_eq rfl (show ((-1) : Int32).toInt = (-1) by decide) c_17
          refine lv_aload_n hx hb dX7_number_80 rfl (lv_at hl 2 rfl) ?_
          refine va_get (D := (dC, dI)) (ci := 7) (v := .int at1) (C := RX7) (T := TX7) (N := 42) hx hb htb inw7 hown hK.1 hP 0 rfl rfl 13 (by decide) (htb _ wmt3_180) (fun _ h9 => h9) rfl dX7_number_81 ?_
          refine lv_iload_n hx hb dX7_number_84 rfl (lv_at hl 1 rfl) ?_
          refine lv_icmp_eq (tgt := 98) hx hb dX7_number_85 (by decide) (fun c_18 => ?_) (fun c_18 => ?_)
          · skip
            have hc_18 := zb_eq rfl rfl c_18
            refine lv_aload_n hx hb dX7_number_98 rfl (lv_at hl 2 rfl) ?_
            refine lv_iload_n hx hb dX7_number_99 rfl (lv_at hl 1 rfl) ?_
            refine va_put (D := (dC, dI)) (ci := 7) (v := .int x_1) (ty := .int) (C := RX7) (T := TX7) (N := 42) hx hb htb inw7 tyX7 tyX7_ok nmX7 hown hK.1 hP (hDa _) hS 0 rfl rfl 14 (by decide) (htb _ wmt3_181) (fun _ h9 => h9) rfl (by decide +kernel) rfl rfl (Nat.le_of_ble_eq_true rfl) dX7_number_100 (fun H locs hP _ hS => ?_)
            have hP : va_P (dC, dI) vwCl (zM k q (sI (sI z 13 at1) 14 x_1)) H := hP
            refine lv_iload hx hb dX7_number_103 (lv_at hl 0 rfl) ?_
            exact W.iret (v := v) hx hb hr (fun t ht hW => ⟨⟨v, (at1, x_1), rfl, (show (0 ≤ v.toInt ∧ v.toInt ≤ 99) ∧ ((z.1 13).toInt ≤ at1.toInt ∧ at1.toInt ≤ (z.1 13).toInt + 2) ∧ ((z.1 14).toInt = -1 ∨ x_1 = z.1 14) ∧ (x_1.toInt = -1 → (z.1 14).toInt = -1 ∧ (z.1 13).toInt < at1.toInt ∧ at1.toInt ≤ (z.2.2.1 2 (z.1 12).toNatClampNeg).toInt ∧ lo.toInt ≤ v.toInt ∧ v.toInt ≤ hi.toInt) from ⟨by omega, by omega, by first | (left; omega) | (right; rfl), fun q9 => by omega⟩), ⟨by rw [ht]; exact hP, hDa _⟩⟩, hS.F ht⟩) hS.2.2 dX7_number_105
          · skip
            have hc_18 := zb_ne rfl rfl c_18
            refine lv_iload hx hb dX7_number_88 (lv_at hl 0 rfl) ?_
            refine lv_iload_n hx hb dX7_number_90 rfl (lv_at hl 3 rfl) ?_
            refine lv_iload_n hx hb dX7_number_91 rfl (lv_at hl 4 rfl) ?_
            refine zc0_i (w := (zM k q (sI z 13 at1))) (va_runS (As := [.int v, .int lo, .int hi]) (rest := []) ⟨hx, hb, hml, hown, htb⟩ (c_X7_in l dC dI k v lo hi _ ) (va_cwS 3 htb (gzS wmt4_62 wmt4_63 wmt1_8 wmt4_64) rfl rfl rfl (by decide +kernel) ⟨Nat.le_of_ble_eq_true rfl, Nat.le_of_ble_eq_true rfl⟩) (zp0_S hK) rfl rfl hl.1 rfl (lv_room (Nat.le_of_ble_eq_true rfl)) dX7_number_92 ⟨Nat.le_of_ble_eq_true rfl, Nat.le_of_ble_eq_true rfl⟩) hP hS hA (fun r_19 u_20 H locs w_21 hP hS => ?_)
            rcases w_21 with ⟨e_23, h_22⟩ | ⟨e_25, h_24⟩
            · skip
              replace e_23 : r_19 = 1 := e_23
              subst e_23
              replace h_22 : lo.toInt ≤ v.toInt ∧ v.toInt ≤ hi.toInt := h_22
              refine lv_if_ne (tgt := 103) hx hb dX7_number_95 (by decide) (fun c_26 => ?_) (fun c_26 => ?_)
              · skip
                refine lv_iload hx hb dX7_number_103 (lv_at hl 0 rfl) ?_
                exact W.iret (v := v) hx hb hr (fun t ht hW => ⟨⟨v, (at1, z.1 14), rfl, (show (0 ≤ v.toInt ∧ v.toInt ≤ 99) ∧ ((z.1 13).toInt ≤ at1.toInt ∧ at1.toInt ≤ (z.1 13).toInt + 2) ∧ ((z.1 14).toInt = -1 ∨ (z.1 14) = z.1 14) ∧ ((z.1 14).toInt = -1 → (z.1 14).toInt = -1 ∧ (z.1 13).toInt < at1.toInt ∧ at1.toInt ≤ (z.2.2.1 2 (z.1 12).toNatClampNeg).toInt ∧ lo.toInt ≤ v.toInt ∧ v.toInt ≤ hi.toInt) from ⟨by omega, by omega, by first | (left; omega) | (right; rfl), fun q9 => by omega⟩), ⟨by rw [ht]; exact hP, hDa _⟩⟩, hS.F ht⟩) hS.2.2 dX7_number_105
              · skip
                exact absurd c_26 (by decide)
            · skip
              replace e_25 : r_19 = 0 := e_25
              subst e_25
              replace h_24 : ¬ (lo.toInt ≤ v.toInt ∧ v.toInt ≤ hi.toInt) := h_24
              refine lv_if_ne (tgt := 103) hx hb dX7_number_95 (by decide) (fun c_27 => ?_) (fun c_27 => ?_)
              · skip
                exact absurd c_27 (by decide)
              · skip
                refine lv_aload_n hx hb dX7_number_98 rfl (lv_at hl 2 rfl) ?_
                refine lv_iload_n hx hb dX7_number_99 rfl (lv_at hl 1 rfl) ?_
                refine va_put (D := (dC, dI)) (ci := 7) (v := .int x_1) (ty := .int) (C := RX7) (T := TX7) (N := 42) hx hb htb inw7 tyX7 tyX7_ok nmX7 hown hK.1 hP (hDa _) hS 0 rfl rfl 14 (by decide) (htb _ wmt3_181) (fun _ h9 => h9) rfl (by decide +kernel) rfl rfl (Nat.le_of_ble_eq_true rfl) dX7_number_100 (fun H locs hP _ hS => ?_)
                have hP : va_P (dC, dI) vwCl (zM k q (sI (sI z 13 at1) 14 x_1)) H := hP
                refine lv_iload hx hb dX7_number_103 (lv_at hl 0 rfl) ?_
                exact W.iret (v := v) hx hb hr (fun t ht hW => ⟨⟨v, (at1, x_1), rfl, (show (0 ≤ v.toInt ∧ v.toInt ≤ 99) ∧ ((z.1 13).toInt ≤ at1.toInt ∧ at1.toInt ≤ (z.1 13).toInt + 2) ∧ ((z.1 14).toInt = -1 ∨ x_1 = z.1 14) ∧ (x_1.toInt = -1 → (z.1 14).toInt = -1 ∧ (z.1 13).toInt < at1.toInt ∧ at1.toInt ≤ (z.2.2.1 2 (z.1 12).toNatClampNeg).toInt ∧ lo.toInt ≤ v.toInt ∧ v.toInt ≤ hi.toInt) from ⟨by omega, by omega, by first | (left; omega) | (right; rfl), fun q9 => by omega⟩), ⟨by rw [ht]; exact hP, hDa _⟩⟩, hS.F ht⟩) hS.2.2 dX7_number_105
      · skip
        have hc_16 := zb_nle rfl rfl c_16
        refine lv_aload_n hx hb dX7_number_26 rfl (lv_at hl 2 rfl) ?_
        refine zcA_i (w := (zM k q (sI z 13 at1))) (va_runV (As := []) (rest := []) ⟨hx, hb, hml, hown, htb⟩ (c_X7_byteNow l dC dI k q (sI z 13 at1) _ (show 0 ≤ (z.1 12).toInt ∧ (z.1 12).toInt < 4 by omega) hm4 (show 0 ≤ at1.toInt ∧ at1.toInt ≤ 1000 by omega)) (cwV 0 htb (gzV wmt4_85 wmt4_87 wmp2_9 wmt1_8 wmt4_88) rfl rfl rfl (by decide +kernel) ⟨Nat.le_of_ble_eq_true rfl, Nat.le_of_ble_eq_true rfl⟩) (zpA_V (ci := 7) (q0 := 0) hK hP (hDa _) rfl rfl) rfl rfl hl.1 rfl (lv_room (Nat.le_of_ble_eq_true rfl)) dX7_number_27 ⟨Nat.le_of_ble_eq_true rfl, Nat.le_of_ble_eq_true rfl⟩) (hDa _) hS hA (fun r_28 u_29 H locs w_30 hP _ hS => ?_)
        obtain ⟨h_31, h_32⟩ := w_30
        replace h_31 : (at1).toInt < ((z.2.2.1 2) ((z.1 12)).toNatClampNeg).toInt ∨ r_28.toInt = -1 := h_31
        replace h_32 : r_28.toInt = bN (at1) ((z.1 12)) ((z.2.2.1 2)) ((z.2.2.1 3)) := h_32
        refine lv_bipush (v := 48) hx hb dX7_number_30 (by decide) ?_
        refine lv_icmp_lt (tgt := 72) hx hb dX7_number_32 (by decide) (fun c_34 => ?_) (fun c_34 => ?_)
        · skip
          have hc_34 := zb_lt rfl (show (48 : Int32).toInt = 48 by decide) c_34
          refine lv_aload_n hx hb dX7_number_72 rfl (lv_at hl 2 rfl) ?_
          refine va_get (D := (dC, dI)) (ci := 7) (v := .int (z.1 14)) (C := RX7) (T := TX7) (N := 42) hx hb htb inw7 hown hK.1 hP 0 rfl rfl 14 (by decide) (htb _ wmt3_181) (fun _ h9 => h9) rfl dX7_number_73 ?_
          refine z_top (v2 := .int x_2) (congrArg Value.int ex_2.symm) ?_
          refine lv_iconst (v := (-1)) hx hb dX7_number_76 (by decide) ?_
          refine lv_icmp_ne (tgt := 103) hx hb dX7_number_77 (by decide) (fun c_35 => ?_) (fun c_35 => ?_)
          · skip
            have hc_35 := zb_ne rfl (show ((-1) : Int32).toInt = (-1) by decide) c_35
            refine lv_iload hx hb dX7_number_103 (lv_at hl 0 rfl) ?_
            exact W.iret (v := v) hx hb hr (fun t ht hW => ⟨⟨v, (at1, z.1 14), rfl, (show (0 ≤ v.toInt ∧ v.toInt ≤ 99) ∧ ((z.1 13).toInt ≤ at1.toInt ∧ at1.toInt ≤ (z.1 13).toInt + 2) ∧ ((z.1 14).toInt = -1 ∨ (z.1 14) = z.1 14) ∧ ((z.1 14).toInt = -1 → (z.1 14).toInt = -1 ∧ (z.1 13).toInt < at1.toInt ∧ at1.toInt ≤ (z.2.2.1 2 (z.1 12).toNatClampNeg).toInt ∧ lo.toInt ≤ v.toInt ∧ v.toInt ≤ hi.toInt) from ⟨by omega, by omega, by first | (left; omega) | (right; rfl), fun q9 => by omega⟩), ⟨by rw [ht]; exact hP, hDa _⟩⟩, hS.F ht⟩) hS.2.2 dX7_number_105
          · skip
            have hc_35 := zb_eq rfl (show ((-1) : Int32).toInt = (-1) by decide) c_35
            refine lv_aload_n hx hb dX7_number_80 rfl (lv_at hl 2 rfl) ?_
            refine va_get (D := (dC, dI)) (ci := 7) (v := .int at1) (C := RX7) (T := TX7) (N := 42) hx hb htb inw7 hown hK.1 hP 0 rfl rfl 13 (by decide) (htb _ wmt3_180) (fun _ h9 => h9) rfl dX7_number_81 ?_
            refine lv_iload_n hx hb dX7_number_84 rfl (lv_at hl 1 rfl) ?_
            refine lv_icmp_eq (tgt := 98) hx hb dX7_number_85 (by decide) (fun c_36 => ?_) (fun c_36 => ?_)
            · skip
              have hc_36 := zb_eq rfl rfl c_36
              refine lv_aload_n hx hb dX7_number_98 rfl (lv_at hl 2 rfl) ?_
              refine lv_iload_n hx hb dX7_number_99 rfl (lv_at hl 1 rfl) ?_
              refine va_put (D := (dC, dI)) (ci := 7) (v := .int x_1) (ty := .int) (C := RX7) (T := TX7) (N := 42) hx hb htb inw7 tyX7 tyX7_ok nmX7 hown hK.1 hP (hDa _) hS 0 rfl rfl 14 (by decide) (htb _ wmt3_181) (fun _ h9 => h9) rfl (by decide +kernel) rfl rfl (Nat.le_of_ble_eq_true rfl) dX7_number_100 (fun H locs hP _ hS => ?_)
              have hP : va_P (dC, dI) vwCl (zM k q (sI (sI z 13 at1) 14 x_1)) H := hP
              refine lv_iload hx hb dX7_number_103 (lv_at hl 0 rfl) ?_
              exact W.iret (v := v) hx hb hr (fun t ht hW => ⟨⟨v, (at1, x_1), rfl, (show (0 ≤ v.toInt ∧ v.toInt ≤ 99) ∧ ((z.1 13).toInt ≤ at1.toInt ∧ at1.toInt ≤ (z.1 13).toInt + 2) ∧ ((z.1 14).toInt = -1 ∨ x_1 = z.1 14) ∧ (x_1.toInt = -1 → (z.1 14).toInt = -1 ∧ (z.1 13).toInt < at1.toInt ∧ at1.toInt ≤ (z.2.2.1 2 (z.1 12).toNatClampNeg).toInt ∧ lo.toInt ≤ v.toInt ∧ v.toInt ≤ hi.toInt) from ⟨by omega, by omega, by first | (left; omega) | (right; rfl), fun q9 => by omega⟩), ⟨by rw [ht]; exact hP, hDa _⟩⟩, hS.F ht⟩) hS.2.2 dX7_number_105
            · skip
              have hc_36 := zb_ne rfl rfl c_36
              refine lv_iload hx hb dX7_number_88 (lv_at hl 0 rfl) ?_
              refine lv_iload_n hx hb dX7_number_90 rfl (lv_at hl 3 rfl) ?_
              refine lv_iload_n hx hb dX7_number_91 rfl (lv_at hl 4 rfl) ?_
              refine zc0_i (w := (zM k q (sI z 13 at1))) (va_runS (As := [.int v, .int lo, .int hi]) (rest := []) ⟨hx, hb, hml, hown, htb⟩ (c_X7_in l dC dI k v lo hi _ ) (va_cwS 3 htb (gzS wmt4_62 wmt4_63 wmt1_8 wmt4_64) rfl rfl rfl (by decide +kernel) ⟨Nat.le_of_ble_eq_true rfl, Nat.le_of_ble_eq_true rfl⟩) (zp0_S hK) rfl rfl hl.1 rfl (lv_room (Nat.le_of_ble_eq_true rfl)) dX7_number_92 ⟨Nat.le_of_ble_eq_true rfl, Nat.le_of_ble_eq_true rfl⟩) hP hS hA (fun r_37 u_38 H locs w_39 hP hS => ?_)
              rcases w_39 with ⟨e_41, h_40⟩ | ⟨e_43, h_42⟩
              · skip
                replace e_41 : r_37 = 1 := e_41
                subst e_41
                replace h_40 : lo.toInt ≤ v.toInt ∧ v.toInt ≤ hi.toInt := h_40
                refine lv_if_ne (tgt := 103) hx hb dX7_number_95 (by decide) (fun c_44 => ?_) (fun c_44 => ?_)
                · skip
                  refine lv_iload hx hb dX7_number_103 (lv_at hl 0 rfl) ?_
                  exact W.iret (v := v) hx hb hr (fun t ht hW => ⟨⟨v, (at1, z.1 14), rfl, (show (0 ≤ v.toInt ∧ v.toInt ≤ 99) ∧ ((z.1 13).toInt ≤ at1.toInt ∧ at1.toInt ≤ (z.1 13).toInt + 2) ∧ ((z.1 14).toInt = -1 ∨ (z.1 14) = z.1 14) ∧ ((z.1 14).toInt = -1 → (z.1 14).toInt = -1 ∧ (z.1 13).toInt < at1.toInt ∧ at1.toInt ≤ (z.2.2.1 2 (z.1 12).toNatClampNeg).toInt ∧ lo.toInt ≤ v.toInt ∧ v.toInt ≤ hi.toInt) from ⟨by omega, by omega, by first | (left; omega) | (right; rfl), fun q9 => by omega⟩), ⟨by rw [ht]; exact hP, hDa _⟩⟩, hS.F ht⟩) hS.2.2 dX7_number_105
                · skip
                  exact absurd c_44 (by decide)
              · skip
                replace e_43 : r_37 = 0 := e_43
                subst e_43
                replace h_42 : ¬ (lo.toInt ≤ v.toInt ∧ v.toInt ≤ hi.toInt) := h_42
                refine lv_if_ne (tgt := 103) hx hb dX7_number_95 (by decide) (fun c_45 => ?_) (fun c_45 => ?_)
                · skip
                  exact absurd c_45 (by decide)
                · skip
                  refine lv_aload_n hx hb dX7_number_98 rfl (lv_at hl 2 rfl) ?_
                  refine lv_iload_n hx hb dX7_number_99 rfl (lv_at hl 1 rfl) ?_
                  refine va_put (D := (dC, dI)) (ci := 7) (v := .int x_1) (ty := .int) (C := RX7) (T := TX7) (N := 42) hx hb htb inw7 tyX7 tyX7_ok nmX7 hown hK.1 hP (hDa _) hS 0 rfl rfl 14 (by decide) (htb _ wmt3_181) (fun _ h9 => h9) rfl (by decide +kernel) rfl rfl (Nat.le_of_ble_eq_true rfl) dX7_number_100 (fun H locs hP _ hS => ?_)
                  have hP : va_P (dC, dI) vwCl (zM k q (sI (sI z 13 at1) 14 x_1)) H := hP
                  refine lv_iload hx hb dX7_number_103 (lv_at hl 0 rfl) ?_
                  exact W.iret (v := v) hx hb hr (fun t ht hW => ⟨⟨v, (at1, x_1), rfl, (show (0 ≤ v.toInt ∧ v.toInt ≤ 99) ∧ ((z.1 13).toInt ≤ at1.toInt ∧ at1.toInt ≤ (z.1 13).toInt + 2) ∧ ((z.1 14).toInt = -1 ∨ x_1 = z.1 14) ∧ (x_1.toInt = -1 → (z.1 14).toInt = -1 ∧ (z.1 13).toInt < at1.toInt ∧ at1.toInt ≤ (z.2.2.1 2 (z.1 12).toNatClampNeg).toInt ∧ lo.toInt ≤ v.toInt ∧ v.toInt ≤ hi.toInt) from ⟨by omega, by omega, by first | (left; omega) | (right; rfl), fun q9 => by omega⟩), ⟨by rw [ht]; exact hP, hDa _⟩⟩, hS.F ht⟩) hS.2.2 dX7_number_105
        · skip
          have hc_34 := zb_nlt rfl (show (48 : Int32).toInt = 48 by decide) c_34
          refine lv_aload_n hx hb dX7_number_35 rfl (lv_at hl 2 rfl) ?_
          refine zcA_i (w := (zM k q (sI z 13 at1))) (va_runV (As := []) (rest := []) ⟨hx, hb, hml, hown, htb⟩ (c_X7_byteNow l dC dI k q (sI z 13 at1) _ (show 0 ≤ (z.1 12).toInt ∧ (z.1 12).toInt < 4 by omega) hm4 (show 0 ≤ at1.toInt ∧ at1.toInt ≤ 1000 by omega)) (cwV 0 htb (gzV wmt4_85 wmt4_87 wmp2_9 wmt1_8 wmt4_88) rfl rfl rfl (by decide +kernel) ⟨Nat.le_of_ble_eq_true rfl, Nat.le_of_ble_eq_true rfl⟩) (zpA_V (ci := 7) (q0 := 0) hK hP (hDa _) rfl rfl) rfl rfl hl.1 rfl (lv_room (Nat.le_of_ble_eq_true rfl)) dX7_number_36 ⟨Nat.le_of_ble_eq_true rfl, Nat.le_of_ble_eq_true rfl⟩) (hDa _) hS hA (fun r_46 u_47 H locs w_48 hP _ hS => ?_)
          obtain ⟨h_49, h_50⟩ := w_48
          replace h_49 : (at1).toInt < ((z.2.2.1 2) ((z.1 12)).toNatClampNeg).toInt ∨ r_46.toInt = -1 := h_49
          replace h_50 : r_46.toInt = bN (at1) ((z.1 12)) ((z.2.2.1 2)) ((z.2.2.1 3)) := h_50
          refine lv_bipush (v := 57) hx hb dX7_number_39 (by decide) ?_
          refine lv_icmp_gt (tgt := 72) hx hb dX7_number_41 (by decide) (fun c_52 => ?_) (fun c_52 => ?_)
          · skip
            have hc_52 := zb_lt (show (57 : Int32).toInt = 57 by decide) rfl c_52
            refine lv_aload_n hx hb dX7_number_72 rfl (lv_at hl 2 rfl) ?_
            refine va_get (D := (dC, dI)) (ci := 7) (v := .int (z.1 14)) (C := RX7) (T := TX7) (N := 42) hx hb htb inw7 hown hK.1 hP 0 rfl rfl 14 (by decide) (htb _ wmt3_181) (fun _ h9 => h9) rfl dX7_number_73 ?_
            refine z_top (v2 := .int x_2) (congrArg Value.int ex_2.symm) ?_
            refine lv_iconst (v := (-1)) hx hb dX7_number_76 (by decide) ?_
            refine lv_icmp_ne (tgt := 103) hx hb dX7_number_77 (by decide) (fun c_53 => ?_) (fun c_53 => ?_)
            · skip
              have hc_53 := zb_ne rfl (show ((-1) : Int32).toInt = (-1) by decide) c_53
              refine lv_iload hx hb dX7_number_103 (lv_at hl 0 rfl) ?_
              exact W.iret (v := v) hx hb hr (fun t ht hW => ⟨⟨v, (at1, z.1 14), rfl, (show (0 ≤ v.toInt ∧ v.toInt ≤ 99) ∧ ((z.1 13).toInt ≤ at1.toInt ∧ at1.toInt ≤ (z.1 13).toInt + 2) ∧ ((z.1 14).toInt = -1 ∨ (z.1 14) = z.1 14) ∧ ((z.1 14).toInt = -1 → (z.1 14).toInt = -1 ∧ (z.1 13).toInt < at1.toInt ∧ at1.toInt ≤ (z.2.2.1 2 (z.1 12).toNatClampNeg).toInt ∧ lo.toInt ≤ v.toInt ∧ v.toInt ≤ hi.toInt) from ⟨by omega, by omega, by first | (left; omega) | (right; rfl), fun q9 => by omega⟩), ⟨by rw [ht]; exact hP, hDa _⟩⟩, hS.F ht⟩) hS.2.2 dX7_number_105
            · skip
              have hc_53 := zb_eq rfl (show ((-1) : Int32).toInt = (-1) by decide) c_53
              refine lv_aload_n hx hb dX7_number_80 rfl (lv_at hl 2 rfl) ?_
              refine va_get (D := (dC, dI)) (ci := 7) (v := .int at1) (C := RX7) (T := TX7) (N := 42) hx hb htb inw7 hown hK.1 hP 0 rfl rfl 13 (by decide) (htb _ wmt3_180) (fun _ h9 => h9) rfl dX7_number_81 ?_
              refine lv_iload_n hx hb dX7_number_84 rfl (lv_at hl 1 rfl) ?_
              refine lv_icmp_eq (tgt := 98) hx hb dX7_number_85 (by decide) (fun c_54 => ?_) (fun c_54 => ?_)
              · skip
                have hc_54 := zb_eq rfl rfl c_54
                refine lv_aload_n hx hb dX7_number_98 rfl (lv_at hl 2 rfl) ?_
                refine lv_iload_n hx hb dX7_number_99 rfl (lv_at hl 1 rfl) ?_
                refine va_put (D := (dC, dI)) (ci := 7) (v := .int x_1) (ty := .int) (C := RX7) (T := TX7) (N := 42) hx hb htb inw7 tyX7 tyX7_ok nmX7 hown hK.1 hP (hDa _) hS 0 rfl rfl 14 (by decide) (htb _ wmt3_181) (fun _ h9 => h9) rfl (by decide +kernel) rfl rfl (Nat.le_of_ble_eq_true rfl) dX7_number_100 (fun H locs hP _ hS => ?_)
                have hP : va_P (dC, dI) vwCl (zM k q (sI (sI z 13 at1) 14 x_1)) H := hP
                refine lv_iload hx hb dX7_number_103 (lv_at hl 0 rfl) ?_
                exact W.iret (v := v) hx hb hr (fun t ht hW => ⟨⟨v, (at1, x_1), rfl, (show (0 ≤ v.toInt ∧ v.toInt ≤ 99) ∧ ((z.1 13).toInt ≤ at1.toInt ∧ at1.toInt ≤ (z.1 13).toInt + 2) ∧ ((z.1 14).toInt = -1 ∨ x_1 = z.1 14) ∧ (x_1.toInt = -1 → (z.1 14).toInt = -1 ∧ (z.1 13).toInt < at1.toInt ∧ at1.toInt ≤ (z.2.2.1 2 (z.1 12).toNatClampNeg).toInt ∧ lo.toInt ≤ v.toInt ∧ v.toInt ≤ hi.toInt) from ⟨by omega, by omega, by first | (left; omega) | (right; rfl), fun q9 => by omega⟩), ⟨by rw [ht]; exact hP, hDa _⟩⟩, hS.F ht⟩) hS.2.2 dX7_number_105
              · skip
                have hc_54 := zb_ne rfl rfl c_54
                refine lv_iload hx hb dX7_number_88 (lv_at hl 0 rfl) ?_
                refine lv_iload_n hx hb dX7_number_90 rfl (lv_at hl 3 rfl) ?_
                refine lv_iload_n hx hb dX7_number_91 rfl (lv_at hl 4 rfl) ?_
                refine zc0_i (w := (zM k q (sI z 13 at1))) (va_runS (As := [.int v, .int lo, .int hi]) (rest := []) ⟨hx, hb, hml, hown, htb⟩ (c_X7_in l dC dI k v lo hi _ ) (va_cwS 3 htb (gzS wmt4_62 wmt4_63 wmt1_8 wmt4_64) rfl rfl rfl (by decide +kernel) ⟨Nat.le_of_ble_eq_true rfl, Nat.le_of_ble_eq_true rfl⟩) (zp0_S hK) rfl rfl hl.1 rfl (lv_room (Nat.le_of_ble_eq_true rfl)) dX7_number_92 ⟨Nat.le_of_ble_eq_true rfl, Nat.le_of_ble_eq_true rfl⟩) hP hS hA (fun r_55 u_56 H locs w_57 hP hS => ?_)
                rcases w_57 with ⟨e_59, h_58⟩ | ⟨e_61, h_60⟩
                · skip
                  replace e_59 : r_55 = 1 := e_59
                  subst e_59
                  replace h_58 : lo.toInt ≤ v.toInt ∧ v.toInt ≤ hi.toInt := h_58
                  refine lv_if_ne (tgt := 103) hx hb dX7_number_95 (by decide) (fun c_62 => ?_) (fun c_62 => ?_)
                  · skip
                    refine lv_iload hx hb dX7_number_103 (lv_at hl 0 rfl) ?_
                    exact W.iret (v := v) hx hb hr (fun t ht hW => ⟨⟨v, (at1, z.1 14), rfl, (show (0 ≤ v.toInt ∧ v.toInt ≤ 99) ∧ ((z.1 13).toInt ≤ at1.toInt ∧ at1.toInt ≤ (z.1 13).toInt + 2) ∧ ((z.1 14).toInt = -1 ∨ (z.1 14) = z.1 14) ∧ ((z.1 14).toInt = -1 → (z.1 14).toInt = -1 ∧ (z.1 13).toInt < at1.toInt ∧ at1.toInt ≤ (z.2.2.1 2 (z.1 12).toNatClampNeg).toInt ∧ lo.toInt ≤ v.toInt ∧ v.toInt ≤ hi.toInt) from ⟨by omega, by omega, by first | (left; omega) | (right; rfl), fun q9 => by omega⟩), ⟨by rw [ht]; exact hP, hDa _⟩⟩, hS.F ht⟩) hS.2.2 dX7_number_105
                  · skip
                    exact absurd c_62 (by decide)
                · skip
                  replace e_61 : r_55 = 0 := e_61
                  subst e_61
                  replace h_60 : ¬ (lo.toInt ≤ v.toInt ∧ v.toInt ≤ hi.toInt) := h_60
                  refine lv_if_ne (tgt := 103) hx hb dX7_number_95 (by decide) (fun c_63 => ?_) (fun c_63 => ?_)
                  · skip
                    exact absurd c_63 (by decide)
                  · skip
                    refine lv_aload_n hx hb dX7_number_98 rfl (lv_at hl 2 rfl) ?_
                    refine lv_iload_n hx hb dX7_number_99 rfl (lv_at hl 1 rfl) ?_
                    refine va_put (D := (dC, dI)) (ci := 7) (v := .int x_1) (ty := .int) (C := RX7) (T := TX7) (N := 42) hx hb htb inw7 tyX7 tyX7_ok nmX7 hown hK.1 hP (hDa _) hS 0 rfl rfl 14 (by decide) (htb _ wmt3_181) (fun _ h9 => h9) rfl (by decide +kernel) rfl rfl (Nat.le_of_ble_eq_true rfl) dX7_number_100 (fun H locs hP _ hS => ?_)
                    have hP : va_P (dC, dI) vwCl (zM k q (sI (sI z 13 at1) 14 x_1)) H := hP
                    refine lv_iload hx hb dX7_number_103 (lv_at hl 0 rfl) ?_
                    exact W.iret (v := v) hx hb hr (fun t ht hW => ⟨⟨v, (at1, x_1), rfl, (show (0 ≤ v.toInt ∧ v.toInt ≤ 99) ∧ ((z.1 13).toInt ≤ at1.toInt ∧ at1.toInt ≤ (z.1 13).toInt + 2) ∧ ((z.1 14).toInt = -1 ∨ x_1 = z.1 14) ∧ (x_1.toInt = -1 → (z.1 14).toInt = -1 ∧ (z.1 13).toInt < at1.toInt ∧ at1.toInt ≤ (z.2.2.1 2 (z.1 12).toNatClampNeg).toInt ∧ lo.toInt ≤ v.toInt ∧ v.toInt ≤ hi.toInt) from ⟨by omega, by omega, by first | (left; omega) | (right; rfl), fun q9 => by omega⟩), ⟨by rw [ht]; exact hP, hDa _⟩⟩, hS.F ht⟩) hS.2.2 dX7_number_105
          · skip
            have hc_52 := zb_nlt (show (57 : Int32).toInt = 57 by decide) rfl c_52
            refine lv_bipush (v := 10) hx hb dX7_number_44 (by decide) ?_
            refine lv_iload hx hb dX7_number_46 (lv_at hl 0 rfl) ?_
            refine lv_imul hx hb dX7_number_48 ?_
            refine lv_topi (fun x_64 ex_64 => ?_)
            have hx_64 := z_mul ex_64 (show (10 : Int32).toInt = 10 by decide) rfl (by omega)
            refine lv_aload_n hx hb dX7_number_49 rfl (lv_at hl 2 rfl) ?_
            refine zcA_i (w := (zM k q (sI z 13 at1))) (va_runV (As := []) (rest := [.int x_64]) ⟨hx, hb, hml, hown, htb⟩ (c_X7_byteNow l dC dI k q (sI z 13 at1) _ (show 0 ≤ (z.1 12).toInt ∧ (z.1 12).toInt < 4 by omega) hm4 (show 0 ≤ at1.toInt ∧ at1.toInt ≤ 1000 by omega)) (cwV 0 htb (gzV wmt4_85 wmt4_87 wmp2_9 wmt1_8 wmt4_88) rfl rfl rfl (by decide +kernel) ⟨Nat.le_of_ble_eq_true rfl, Nat.le_of_ble_eq_true rfl⟩) (zpA_V (ci := 7) (q0 := 0) hK hP (hDa _) rfl rfl) rfl rfl hl.1 rfl (lv_room (Nat.le_of_ble_eq_true rfl)) dX7_number_50 ⟨Nat.le_of_ble_eq_true rfl, Nat.le_of_ble_eq_true rfl⟩) (hDa _) hS hA (fun r_65 u_66 H locs w_67 hP _ hS => ?_)
            obtain ⟨h_68, h_69⟩ := w_67
            replace h_68 : (at1).toInt < ((z.2.2.1 2) ((z.1 12)).toNatClampNeg).toInt ∨ r_65.toInt = -1 := h_68
            replace h_69 : r_65.toInt = bN (at1) ((z.1 12)) ((z.2.2.1 2)) ((z.2.2.1 3)) := h_69
            refine lv_iadd hx hb dX7_number_53 ?_
            refine lv_topi (fun x_71 ex_71 => ?_)
            have hx_71 := z_add ex_71 rfl rfl (by omega)
            refine lv_bipush (v := 48) hx hb dX7_number_54 (by decide) ?_
            refine lv_isub hx hb dX7_number_56 ?_
            refine lv_topi (fun x_72 ex_72 => ?_)
            have hx_72 := z_sub ex_72 rfl (show (48 : Int32).toInt = 48 by decide) (by omega)
            refine lv_istore (lv' := [(4, .int x_72), (3, .int x_1), (0, .ref (q 0)), (1, .int lo), (2, .int hi)]) hx hb dX7_number_57 hl (by decide) rfl (fun ls hl => ?_)
            refine lv_aload_n hx hb dX7_number_59 rfl (lv_at hl 2 rfl) ?_
            refine lv_dup hx hb dX7_number_60 rfl ?_
            refine va_get (D := (dC, dI)) (ci := 7) (v := .int at1) (C := RX7) (T := TX7) (N := 42) hx hb htb inw7 hown hK.1 hP 0 rfl rfl 13 (by decide) (htb _ wmt3_180) (fun _ h9 => h9) rfl dX7_number_61 ?_
            refine lv_iconst (v := 1) hx hb dX7_number_64 (by decide) ?_
            refine lv_iadd hx hb dX7_number_65 ?_
            refine lv_topi (fun x_73 ex_73 => ?_)
            have hx_73 := z_add ex_73 rfl (show (1 : Int32).toInt = 1 by decide) (by omega)
            refine va_put (D := (dC, dI)) (ci := 7) (v := .int x_73) (ty := .int) (C := RX7) (T := TX7) (N := 42) hx hb htb inw7 tyX7 tyX7_ok nmX7 hown hK.1 hP (hDa _) hS 0 rfl rfl 13 (by decide) (htb _ wmt3_180) (fun _ h9 => h9) rfl (by decide +kernel) rfl rfl (Nat.le_of_ble_eq_true rfl) dX7_number_66 (fun H locs hP _ hS => ?_)
            have hP : va_P (dC, dI) vwCl (zM k q (sI z 13 x_73)) H := hP
            refine lv_goto (tgt := 8) hx hb dX7_number_69 (by decide) ?_
            exact ih8 (((z.1 13).toInt + 2 - x_73.toInt).toNat) (by omega) x_72 x_73 ⟨(show 0 ≤ x_72.toInt ∧ (x_73.toInt = (z.1 13).toInt → x_72.toInt = 0) ∧ (x_73.toInt = (z.1 13).toInt + 1 → x_72.toInt ≤ 9) ∧ x_72.toInt ≤ 99 by omega), (show (z.1 13).toInt ≤ x_73.toInt ∧ x_73.toInt ≤ (z.1 13).toInt + 2 by omega), (show (z.1 13).toInt < x_73.toInt → x_73.toInt ≤ (z.2.2.1 2 (z.1 12).toNatClampNeg).toInt by omega)⟩ rfl H locs ls hP hS (lv_sub hl [0, 1, 2, 3, 4] rfl)
set_option maxHeartbeats 4000000 in
set_option maxRecDepth 100000 in
theorem c_X7_partRead (l : Launch) (dC : Nat → ClassId) (dI : Nat → Nat → Nat) (k : Nat → ClassId) (q : Nat → Nat) (z : ZS) (sz : Nat) (hdn : 0 ≤ (z.1 12).toInt ∧ (z.1 12).toInt < 4) (hm4 : M4 (z.2.2.1 2)) (hat : 0 ≤ (z.1 13).toInt ∧ (z.1 13).toInt ≤ 200) (hf : (z.1 14).toInt = -1) (hpt : PT (z.1 15) (z.2.2.1 17) (z.2.2.1 18)) (h4 : 4 * (z.1 15).toInt ≤ (z.1 13).toInt) : Met l yX7_partRead (wz yX7_partRead cX7_partRead 4 none) ({ frames := 2, cells := 0, slots := 0, locals := 46 }) (va_Pc [.ref (q 0)] (zPre dC dI k (zTX k) (zM k q z) sz)) (va_Qv (fun (u : Int32 × Int32 × Int32 × (Nat → Int32) × (Nat → Int32) × (Nat → Int32)) => (PT u.2.2.1 u.2.2.2.2.1 u.2.2.2.2.2) ∧ (4 * u.2.2.1.toInt ≤ u.1.toInt) ∧ ((z.1 13).toInt ≤ u.1.toInt ∧ u.1.toInt ≤ (z.1 13).toInt + 6) ∧ (u.2.1.toInt = -1 → (z.1 13).toInt < u.1.toInt ∧ u.1.toInt ≤ (z.2.2.1 2 (z.1 12).toNatClampNeg).toInt)) (fun u t => zPost dC dI (va_A (zM k q z) sz) (zM k q (sA (sA (sA (sI (sI (sI z 13 u.1) 14 u.2.1) 15 u.2.2.1) 16 u.2.2.2.1) 17 u.2.2.2.2.1) 18 u.2.2.2.2.2)) t) (va_A (zM k q z) sz)) 0 0 (va_A (zM k q z) sz) := by
  refine Met.ofW (cc := cX7_partRead) (maxL := 4) (ret := none) (by decide) rfl ?_
  intro p e s m args below meth c s₁ B hml hv
  obtain ⟨rfl, hsz, hP, hK, hD0⟩ := hv
  have hx := B.exec
  have hb := B.bytes
  have hr := B.returns
  have hts := atoms_spec (ws := wz yX7_partRead cX7_partRead 4 none) B.pre
  have htb : ∀ w ∈ zw, w.before _ s = true := fun w h => hts w (List.mem_cons_of_mem _ h)
  have hown : s.vm.findClass RX7 = some m.cls := findClass_of_methodNamed B.named
  have hlocks := B.notSynchronized
  clear hts
  subst hsz
  have hD := hD0.self (sz := s.heap.size)
  generalize hAe : va_A (zM k q z) s.heap.size = A at hD ⊢
  have hA : ∀ q : Nat, s.heap.size ≤ q → A q := fun q h => by rw [← hAe]; exact Or.inr h
  have hDa : ∀ z9 : ZS, va_D A (zM k q z9) := fun z9 => va_D_adr (w := zM k q z) rfl hD
  have hl := lv_entry ([.ref (q 0)]) (n := 4) (Nat.le_of_ble_eq_true rfl)
  rw [lg_entry_eq]
  generalize (lg_sl ([.ref (q 0)]) ++ List.replicate (4 - (lg_sl ([.ref (q 0)])).length) Slot.unset).toArray = ls at hl ⊢
  have hl : lv_has ls 4 [(0, .ref (q 0))] := hl
  refine z_start2 (A := A) (w := (zM k q z)) hP (fun H locs hP hS => ?_)
  clear hD0 hAe
  have hty := M4_at hm4 hdn
  have hp0 := hpt.1
  have hp1 := hpt.2.1
  refine lv_aload_n hx hb dX7_partRead_0 rfl (lv_at hl 0 rfl) ?_
  refine zcA_i (w := (zM k q z)) (va_runV (As := []) (rest := []) ⟨hx, hb, hml, hown, htb⟩ (c_X7_byteNow l dC dI k q z _ (show 0 ≤ (z.1 12).toInt ∧ (z.1 12).toInt < 4 by omega) hm4 (show 0 ≤ (z.1 13).toInt ∧ (z.1 13).toInt ≤ 1000 by omega)) (cwV 0 htb (gzV wmt4_85 wmt4_87 wmp2_9 wmt1_8 wmt4_88) rfl rfl rfl (by decide +kernel) ⟨Nat.le_of_ble_eq_true rfl, Nat.le_of_ble_eq_true rfl⟩) (zpA_V (ci := 7) (q0 := 0) hK hP (hDa _) rfl rfl) rfl rfl hl.1 rfl (lv_room (Nat.le_of_ble_eq_true rfl)) dX7_partRead_1 ⟨Nat.le_of_ble_eq_true rfl, Nat.le_of_ble_eq_true rfl⟩) (hDa _) hS hA (fun r_1 u_2 H locs w_3 hP _ hS => ?_)
  obtain ⟨h_4, h_5⟩ := w_3
  replace h_4 : ((z.1 13)).toInt < ((z.2.2.1 2) ((z.1 12)).toNatClampNeg).toInt ∨ r_1.toInt = -1 := h_4
  replace h_5 : r_1.toInt = bN ((z.1 13)) ((z.1 12)) ((z.2.2.1 2)) ((z.2.2.1 3)) := h_5
  refine lv_istore_n (lv' := [(1, .int r_1), (0, .ref (q 0))]) hx hb dX7_partRead_4 rfl hl (by decide) rfl (fun ls hl => ?_)
  refine z_join2 (dC := dC) (dI := dI) (A := A) (H0 := s.heap) (nL := 4) (α := Int32) (Inv := fun x => True) (lv2 := fun x => [(0, .ref (q 0)), (1, .int x)]) (st2 := fun _ => []) (w2 := fun x => (zM k q z)) 44 (fun x H locs ls hinv hP hS hl => ?_) (fun hj44 => ?_)
  · skip
    obtain ⟨bb, rfl⟩ : ∃ y, y = x := ⟨_, rfl⟩
    have hP : va_P (dC, dI) vwCl (zM k q z) H := hP
    have hl : lv_has ls 4 [(0, .ref (q 0)), (1, .int bb)] := hl
    refine lv_aload_n hx hb dX7_partRead_44 rfl (lv_at hl 0 rfl) ?_
    refine lv_dup hx hb dX7_partRead_45 rfl ?_
    refine va_get (D := (dC, dI)) (ci := 7) (v := .int (z.1 13)) (C := RX7) (T := TX7) (N := 42) hx hb htb inw7 hown hK.1 hP 0 rfl rfl 13 (by decide) (htb _ wmt3_180) (fun _ h9 => h9) rfl dX7_partRead_46 ?_
    refine lv_topi (fun x_7 ex_7 => ?_)
    have hx_7 : x_7.toInt = (z.1 13).toInt := by rw [ex_7]
    refine lv_iconst (v := 1) hx hb dX7_partRead_49 (by decide) ?_
    refine lv_iadd hx hb dX7_partRead_50 ?_
    refine lv_topi (fun x_8 ex_8 => ?_)
    have hx_8 := z_add ex_8 rfl (show (1 : Int32).toInt = 1 by decide) (by omega)
    refine va_put (D := (dC, dI)) (ci := 7) (v := .int x_8) (ty := .int) (C := RX7) (T := TX7) (N := 42) hx hb htb inw7 tyX7 tyX7_ok nmX7 hown hK.1 hP (hDa _) hS 0 rfl rfl 13 (by decide) (htb _ wmt3_180) (fun _ h9 => h9) rfl (by decide +kernel) rfl rfl (Nat.le_of_ble_eq_true rfl) dX7_partRead_51 (fun H locs hP _ hS => ?_)
    have hP : va_P (dC, dI) vwCl (zM k q (sI z 13 x_8)) H := hP
    refine lv_aload_n hx hb dX7_partRead_54 rfl (lv_at hl 0 rfl) ?_
    refine lv_iconst (v := 0) hx hb dX7_partRead_55 (by decide) ?_
    refine lv_bipush (v := 20) hx hb dX7_partRead_56 (by decide) ?_
    refine zcA_i (w := (zM k q (sI z 13 x_8))) (va_runV (As := [.int 0, .int 20]) (rest := []) ⟨hx, hb, hml, hown, htb⟩ (c_X7_number l dC dI k q (sI z 13 x_8) 0 20 _ (show 0 ≤ (z.1 12).toInt ∧ (z.1 12).toInt < 4 by omega) hm4 (show 0 ≤ x_8.toInt ∧ x_8.toInt ≤ 900 by omega)) (cwV 2 htb (gzV wmt4_89 wmt4_91 wmp2_10 wmt1_8 wmt4_92) rfl rfl rfl (by decide +kernel) ⟨Nat.le_of_ble_eq_true rfl, Nat.le_of_ble_eq_true rfl⟩) (zpA_V (ci := 7) (q0 := 0) hK hP (hDa _) rfl rfl) rfl rfl hl.1 rfl (lv_room (Nat.le_of_ble_eq_true rfl)) dX7_partRead_58 ⟨Nat.le_of_ble_eq_true rfl, Nat.le_of_ble_eq_true rfl⟩) (hDa _) hS hA (fun r_9 u_10 H locs w_11 hP _ hS => ?_)
    obtain ⟨oat_12, ofa_13⟩ := u_10
    have hP : va_P (dC, dI) vwCl (zM k q (sI (sI z 13 oat_12) 14 ofa_13)) H := hP
    obtain ⟨h_14, h_15, h_16, h_17⟩ := w_11
    replace h_14 : 0 ≤ r_9.toInt ∧ r_9.toInt ≤ 99 := h_14
    replace h_15 : (x_8).toInt ≤ oat_12.toInt ∧ oat_12.toInt ≤ (x_8).toInt + 2 := h_15
    replace h_16 : ((z.1 14)).toInt = -1 ∨ ofa_13 = (z.1 14) := h_16
    replace h_17 : ofa_13.toInt = -1 → ((z.1 14)).toInt = -1 ∧ (x_8).toInt < oat_12.toInt ∧ oat_12.toInt ≤ ((z.2.2.1 2) ((z.1 12)).toNatClampNeg).toInt ∧ (0 : Int32).toInt ≤ r_9.toInt ∧ r_9.toInt ≤ (20 : Int32).toInt := h_17
    rw [show (0 : Int32).toInt = 0 by decide, show (20 : Int32).toInt = 20 by decide] at h_17
    have hnaa := h_14
    have hnab := h_15
    have hnac := h_16
    have hnad := h_17
    refine lv_istore_n (lv' := [(2, .int r_9), (0, .ref (q 0)), (1, .int bb)]) hx hb dX7_partRead_61 rfl hl (by decide) rfl (fun ls hl => ?_)
    refine z_join2 (dC := dC) (dI := dI) (A := A) (H0 := s.heap) (nL := 4) (α := Int32) (Inv := fun x => (x.toInt = -1 → ofa_13.toInt = -1 ∧ oat_12.toInt < (z.2.2.1 2 (z.1 12).toNatClampNeg).toInt)) (lv2 := fun x => [(0, .ref (q 0)), (1, .int bb), (2, .int r_9)]) (st2 := fun _ => []) (w2 := fun x => (zM k q (sI (sI z 13 oat_12) 14 x))) 87 (fun x H locs ls hinv hP hS hl => ?_) (fun hj87 => ?_)
    · skip
      obtain ⟨fa1, rfl⟩ : ∃ y, y = x := ⟨_, rfl⟩
      have hfa1 := hinv
      replace hfa1 : fa1.toInt = -1 → ofa_13.toInt = -1 ∧ oat_12.toInt < (z.2.2.1 2 (z.1 12).toNatClampNeg).toInt := hfa1
      have hP : va_P (dC, dI) vwCl (zM k q (sI (sI z 13 oat_12) 14 fa1)) H := hP
      have hl : lv_has ls 4 [(0, .ref (q 0)), (1, .int bb), (2, .int r_9)] := hl
      refine lv_aload_n hx hb dX7_partRead_87 rfl (lv_at hl 0 rfl) ?_
      refine lv_dup hx hb dX7_partRead_88 rfl ?_
      refine va_get (D := (dC, dI)) (ci := 7) (v := .int oat_12) (C := RX7) (T := TX7) (N := 42) hx hb htb inw7 hown hK.1 hP 0 rfl rfl 13 (by decide) (htb _ wmt3_180) (fun _ h9 => h9) rfl dX7_partRead_89 ?_
      refine lv_iconst (v := 1) hx hb dX7_partRead_92 (by decide) ?_
      refine lv_iadd hx hb dX7_partRead_93 ?_
      refine lv_topi (fun x_19 ex_19 => ?_)
      have hx_19 := z_add ex_19 rfl (show (1 : Int32).toInt = 1 by decide) (by omega)
      refine va_put (D := (dC, dI)) (ci := 7) (v := .int x_19) (ty := .int) (C := RX7) (T := TX7) (N := 42) hx hb htb inw7 tyX7 tyX7_ok nmX7 hown hK.1 hP (hDa _) hS 0 rfl rfl 13 (by decide) (htb _ wmt3_180) (fun _ h9 => h9) rfl (by decide +kernel) rfl rfl (Nat.le_of_ble_eq_true rfl) dX7_partRead_94 (fun H locs hP _ hS => ?_)
      have hP : va_P (dC, dI) vwCl (zM k q (sI (sI z 14 fa1) 13 x_19)) H := hP
      refine lv_aload_n hx hb dX7_partRead_97 rfl (lv_at hl 0 rfl) ?_
      refine lv_iload_n hx hb dX7_partRead_98 rfl (lv_at hl 2 rfl) ?_
      refine lv_iconst (v := 1) hx hb dX7_partRead_99 (by decide) ?_
      refine lv_icmp_ge (tgt := 107) hx hb dX7_partRead_100 (by decide) (fun c_20 => ?_) (fun c_20 => ?_)
      · skip
        have hc_20 := zb_le (show (1 : Int32).toInt = 1 by decide) rfl c_20
        refine lv_iload_n hx hb dX7_partRead_107 rfl (lv_at hl 2 rfl) ?_
        refine lv_bipush (v := 20) hx hb dX7_partRead_108 (by decide) ?_
        refine zcA_i (w := (zM k q (sI (sI z 14 fa1) 13 x_19))) (va_runV (As := [.int r_9, .int 20]) (rest := []) ⟨hx, hb, hml, hown, htb⟩ (c_X7_number l dC dI k q (sI (sI z 14 fa1) 13 x_19) r_9 20 _ (show 0 ≤ (z.1 12).toInt ∧ (z.1 12).toInt < 4 by omega) hm4 (show 0 ≤ x_19.toInt ∧ x_19.toInt ≤ 900 by omega)) (cwV 2 htb (gzV wmt4_89 wmt4_91 wmp2_10 wmt1_8 wmt4_92) rfl rfl rfl (by decide +kernel) ⟨Nat.le_of_ble_eq_true rfl, Nat.le_of_ble_eq_true rfl⟩) (zpA_V (ci := 7) (q0 := 0) hK hP (hDa _) rfl rfl) rfl rfl hl.1 rfl (lv_room (Nat.le_of_ble_eq_true rfl)) dX7_partRead_110 ⟨Nat.le_of_ble_eq_true rfl, Nat.le_of_ble_eq_true rfl⟩) (hDa _) hS hA (fun r_21 u_22 H locs w_23 hP _ hS => ?_)
        obtain ⟨oat_24, ofa_25⟩ := u_22
        have hP : va_P (dC, dI) vwCl (zM k q (sI (sI z 13 oat_24) 14 ofa_25)) H := hP
        obtain ⟨h_26, h_27, h_28, h_29⟩ := w_23
        replace h_26 : 0 ≤ r_21.toInt ∧ r_21.toInt ≤ 99 := h_26
        replace h_27 : (x_19).toInt ≤ oat_24.toInt ∧ oat_24.toInt ≤ (x_19).toInt + 2 := h_27
        replace h_28 : (fa1).toInt = -1 ∨ ofa_25 = fa1 := h_28
        replace h_29 : ofa_25.toInt = -1 → (fa1).toInt = -1 ∧ (x_19).toInt < oat_24.toInt ∧ oat_24.toInt ≤ ((z.2.2.1 2) ((z.1 12)).toNatClampNeg).toInt ∧ r_9.toInt ≤ r_21.toInt ∧ r_21.toInt ≤ (20 : Int32).toInt := h_29
        rw [show (20 : Int32).toInt = 20 by decide] at h_29
        have hnba := h_26
        have hnbb := h_27
        have hnbc := h_28
        have hnbd := h_29
        refine lv_istore_n (lv' := [(3, .int r_21), (0, .ref (q 0)), (1, .int bb), (2, .int r_9)]) hx hb dX7_partRead_113 rfl hl (by decide) rfl (fun ls hl => ?_)
        refine lv_aload_n hx hb dX7_partRead_114 rfl (lv_at hl 1 rfl) ?_
        refine va_get (D := (dC, dI)) (ci := 7) (v := .int ofa_25) (C := RX7) (T := TX7) (N := 42) hx hb htb inw7 hown hK.1 hP 0 rfl rfl 14 (by decide) (htb _ wmt3_181) (fun _ h9 => h9) rfl dX7_partRead_115 ?_
        refine lv_iconst (v := (-1)) hx hb dX7_partRead_118 (by decide) ?_
        refine lv_icmp_ne (tgt := 162) hx hb dX7_partRead_119 (by decide) (fun c_31 => ?_) (fun c_31 => ?_)
        · skip
          have hc_31 := zb_ne rfl (show ((-1) : Int32).toInt = (-1) by decide) c_31
          exact W.vret hx hb hr (fun t ht hW => ⟨⟨(oat_24, ofa_25, z.1 15, z.2.2.1 16, z.2.2.1 17, z.2.2.1 18), rfl, (show (PT (z.1 15) (z.2.2.1 17) (z.2.2.1 18)) ∧ (4 * (z.1 15).toInt ≤ oat_24.toInt) ∧ ((z.1 13).toInt ≤ oat_24.toInt ∧ oat_24.toInt ≤ (z.1 13).toInt + 6) ∧ (ofa_25.toInt = -1 → (z.1 13).toInt < oat_24.toInt ∧ oat_24.toInt ≤ (z.2.2.1 2 (z.1 12).toNatClampNeg).toInt) from ⟨hpt, by omega, by omega, fun q9 => by omega⟩), ⟨by rw [ht]; exact hP, hDa _⟩⟩, hS.F ht⟩) hS.2.2 dX7_partRead_162
        · skip
          have hc_31 := zb_eq rfl (show ((-1) : Int32).toInt = (-1) by decide) c_31
          refine lv_aload_n hx hb dX7_partRead_122 rfl (lv_at hl 1 rfl) ?_
          refine va_get (D := (dC, dI)) (ci := 7) (v := .ref (q 16)) (C := RX7) (T := TX7) (N := 42) hx hb htb inw7 hown hK.1 hP 0 rfl rfl 16 (by decide) (htb _ wmt3_183) (fun _ h9 => h9) rfl dX7_partRead_123 ?_
          refine lv_aload_n hx hb dX7_partRead_126 rfl (lv_at hl 1 rfl) ?_
          refine va_get (D := (dC, dI)) (ci := 7) (v := .int (z.1 15)) (C := RX7) (T := TX7) (N := 42) hx hb htb inw7 hown hK.1 hP 0 rfl rfl 15 (by decide) (htb _ wmt3_182) (fun _ h9 => h9) rfl dX7_partRead_127 ?_
          refine lv_topi (fun x_32 ex_32 => ?_)
          have hx_32 : x_32.toInt = (z.1 15).toInt := by rw [ex_32]
          refine lv_iload_n hx hb dX7_partRead_130 rfl (lv_at hl 2 rfl) ?_
          refine va_iast (D := (dC, dI)) hx hb hK.1 hP (hDa _) hS 10 0 rfl rfl (z_in (by omega)) dX7_partRead_131 (fun H locs hP _ hS => ?_)
          obtain ⟨f_33, ef_33⟩ : ∃ x : Nat → Int32, x = upd (z.2.2.1 16) x_32.toNatClampNeg bb := ⟨_, rfl⟩
          have hP : va_P (dC, dI) vwCl (zM k q (sA (sI (sI z 13 oat_24) 14 ofa_25) 16 f_33)) H := by rw [ef_33]; exact hP
          refine lv_aload_n hx hb dX7_partRead_132 rfl (lv_at hl 1 rfl) ?_
          refine va_get (D := (dC, dI)) (ci := 7) (v := .ref (q 17)) (C := RX7) (T := TX7) (N := 42) hx hb htb inw7 hown hK.1 hP 0 rfl rfl 17 (by decide) (htb _ wmt3_184) (fun _ h9 => h9) rfl dX7_partRead_133 ?_
          refine lv_aload_n hx hb dX7_partRead_136 rfl (lv_at hl 1 rfl) ?_
          refine va_get (D := (dC, dI)) (ci := 7) (v := .int (z.1 15)) (C := RX7) (T := TX7) (N := 42) hx hb htb inw7 hown hK.1 hP 0 rfl rfl 15 (by decide) (htb _ wmt3_182) (fun _ h9 => h9) rfl dX7_partRead_137 ?_
          refine z_top (v2 := .int x_32) (congrArg Value.int ex_32.symm) ?_
          refine lv_iload_n hx hb dX7_partRead_140 rfl (lv_at hl 3 rfl) ?_
          refine va_iast (D := (dC, dI)) hx hb hK.1 hP (hDa _) hS 11 0 rfl rfl (z_in (by omega)) dX7_partRead_141 (fun H locs hP _ hS => ?_)
          obtain ⟨f_34, ef_34⟩ : ∃ x : Nat → Int32, x = upd (z.2.2.1 17) x_32.toNatClampNeg r_9 := ⟨_, rfl⟩
          have hP : va_P (dC, dI) vwCl (zM k q (sA (sA (sI (sI z 13 oat_24) 14 ofa_25) 16 f_33) 17 f_34)) H := by rw [ef_34]; exact hP
          refine lv_aload_n hx hb dX7_partRead_142 rfl (lv_at hl 1 rfl) ?_
          refine va_get (D := (dC, dI)) (ci := 7) (v := .ref (q 18)) (C := RX7) (T := TX7) (N := 42) hx hb htb inw7 hown hK.1 hP 0 rfl rfl 18 (by decide) (htb _ wmt3_185) (fun _ h9 => h9) rfl dX7_partRead_143 ?_
          refine lv_aload_n hx hb dX7_partRead_146 rfl (lv_at hl 1 rfl) ?_
          refine va_get (D := (dC, dI)) (ci := 7) (v := .int (z.1 15)) (C := RX7) (T := TX7) (N := 42) hx hb htb inw7 hown hK.1 hP 0 rfl rfl 15 (by decide) (htb _ wmt3_182) (fun _ h9 => h9) rfl dX7_partRead_147 ?_
          refine z_top (v2 := .int x_32) (congrArg Value.int ex_32.symm) ?_
          refine lv_iload_n hx hb dX7_partRead_150 rfl (lv_at hl 0 rfl) ?_
          refine va_iast (D := (dC, dI)) hx hb hK.1 hP (hDa _) hS 12 0 rfl rfl (z_in (by omega)) dX7_partRead_151 (fun H locs hP _ hS => ?_)
          obtain ⟨f_35, ef_35⟩ : ∃ x : Nat → Int32, x = upd (z.2.2.1 18) x_32.toNatClampNeg r_21 := ⟨_, rfl⟩
          have hP : va_P (dC, dI) vwCl (zM k q (sA (sA (sA (sI (sI z 13 oat_24) 14 ofa_25) 16 f_33) 17 f_34) 18 f_35)) H := by rw [ef_35]; exact hP
          refine lv_aload_n hx hb dX7_partRead_152 rfl (lv_at hl 1 rfl) ?_
          refine lv_dup hx hb dX7_partRead_153 rfl ?_
          refine va_get (D := (dC, dI)) (ci := 7) (v := .int (z.1 15)) (C := RX7) (T := TX7) (N := 42) hx hb htb inw7 hown hK.1 hP 0 rfl rfl 15 (by decide) (htb _ wmt3_182) (fun _ h9 => h9) rfl dX7_partRead_154 ?_
          refine z_top (v2 := .int x_32) (congrArg Value.int ex_32.symm) ?_
          refine lv_iconst (v := 1) hx hb dX7_partRead_157 (by decide) ?_
          refine lv_iadd hx hb dX7_partRead_158 ?_
          refine lv_topi (fun x_36 ex_36 => ?_)
          have hx_36 : x_36.toInt = (z.1 15).toInt + 1 := z_add ex_36 hx_32 (show (1 : Int32).toInt = 1 by decide) (by omega)
          refine va_put (D := (dC, dI)) (ci := 7) (v := .int x_36) (ty := .int) (C := RX7) (T := TX7) (N := 42) hx hb htb inw7 tyX7 tyX7_ok nmX7 hown hK.1 hP (hDa _) hS 0 rfl rfl 15 (by decide) (htb _ wmt3_182) (fun _ h9 => h9) rfl (by decide +kernel) rfl rfl (Nat.le_of_ble_eq_true rfl) dX7_partRead_159 (fun H locs hP _ hS => ?_)
          have hP : va_P (dC, dI) vwCl (zM k q (sI (sA (sA (sA (sI (sI z 13 oat_24) 14 ofa_25) 16 f_33) 17 f_34) 18 f_35) 15 x_36)) H := hP
          exact W.vret hx hb hr (fun t ht hW => ⟨⟨(oat_24, ofa_25, x_36, f_33, f_34, f_35), rfl, (show (PT x_36 f_34 f_35) ∧ (4 * x_36.toInt ≤ oat_24.toInt) ∧ ((z.1 13).toInt ≤ oat_24.toInt ∧ oat_24.toInt ≤ (z.1 13).toInt + 6) ∧ (ofa_25.toInt = -1 → (z.1 13).toInt < oat_24.toInt ∧ oat_24.toInt ≤ (z.2.2.1 2 (z.1 12).toNatClampNeg).toInt) from (by subst ex_32; exact ⟨PT_step hpt (by omega) ex_36 ef_34 ef_35 ⟨by omega, by omega, by omega, by omega⟩, by omega, by omega, fun _ => ⟨by omega, by omega⟩⟩)), ⟨by rw [ht]; exact hP, hDa _⟩⟩, hS.F ht⟩) hS.2.2 dX7_partRead_162
      · skip
        have hc_20 := zb_nle (show (1 : Int32).toInt = 1 by decide) rfl c_20
        refine lv_iconst (v := 1) hx hb dX7_partRead_103 (by decide) ?_
        refine lv_goto (tgt := 108) hx hb dX7_partRead_104 (by decide) ?_
        refine lv_bipush (v := 20) hx hb dX7_partRead_108 (by decide) ?_
        refine zcA_i (w := (zM k q (sI (sI z 14 fa1) 13 x_19))) (va_runV (As := [.int 1, .int 20]) (rest := []) ⟨hx, hb, hml, hown, htb⟩ (c_X7_number l dC dI k q (sI (sI z 14 fa1) 13 x_19) 1 20 _ (show 0 ≤ (z.1 12).toInt ∧ (z.1 12).toInt < 4 by omega) hm4 (show 0 ≤ x_19.toInt ∧ x_19.toInt ≤ 900 by omega)) (cwV 2 htb (gzV wmt4_89 wmt4_91 wmp2_10 wmt1_8 wmt4_92) rfl rfl rfl (by decide +kernel) ⟨Nat.le_of_ble_eq_true rfl, Nat.le_of_ble_eq_true rfl⟩) (zpA_V (ci := 7) (q0 := 0) hK hP (hDa _) rfl rfl) rfl rfl hl.1 rfl (lv_room (Nat.le_of_ble_eq_true rfl)) dX7_partRead_110 ⟨Nat.le_of_ble_eq_true rfl, Nat.le_of_ble_eq_true rfl⟩) (hDa _) hS hA (fun r_37 u_38 H locs w_39 hP _ hS => ?_)
        obtain ⟨oat_40, ofa_41⟩ := u_38
        have hP : va_P (dC, dI) vwCl (zM k q (sI (sI z 13 oat_40) 14 ofa_41)) H := hP
        obtain ⟨h_42, h_43, h_44, h_45⟩ := w_39
        replace h_42 : 0 ≤ r_37.toInt ∧ r_37.toInt ≤ 99 := h_42
        replace h_43 : (x_19).toInt ≤ oat_40.toInt ∧ oat_40.toInt ≤ (x_19).toInt + 2 := h_43
        replace h_44 : (fa1).toInt = -1 ∨ ofa_41 = fa1 := h_44
        replace h_45 : ofa_41.toInt = -1 → (fa1).toInt = -1 ∧ (x_19).toInt < oat_40.toInt ∧ oat_40.toInt ≤ ((z.2.2.1 2) ((z.1 12)).toNatClampNeg).toInt ∧ (1 : Int32).toInt ≤ r_37.toInt ∧ r_37.toInt ≤ (20 : Int32).toInt := h_45
        rw [show (1 : Int32).toInt = 1 by decide, show (20 : Int32).toInt = 20 by decide] at h_45
        have hnba := h_42
        have hnbb := h_43
        have hnbc := h_44
        have hnbd := h_45
        refine lv_istore_n (lv' := [(3, .int r_37), (0, .ref (q 0)), (1, .int bb), (2, .int r_9)]) hx hb dX7_partRead_113 rfl hl (by decide) rfl (fun ls hl => ?_)
        refine lv_aload_n hx hb dX7_partRead_114 rfl (lv_at hl 1 rfl) ?_
        refine va_get (D := (dC, dI)) (ci := 7) (v := .int ofa_41) (C := RX7) (T := TX7) (N := 42) hx hb htb inw7 hown hK.1 hP 0 rfl rfl 14 (by decide) (htb _ wmt3_181) (fun _ h9 => h9) rfl dX7_partRead_115 ?_
        refine lv_iconst (v := (-1)) hx hb dX7_partRead_118 (by decide) ?_
        refine lv_icmp_ne (tgt := 162) hx hb dX7_partRead_119 (by decide) (fun c_47 => ?_) (fun c_47 => ?_)
        · skip
          have hc_47 := zb_ne rfl (show ((-1) : Int32).toInt = (-1) by decide) c_47
          exact W.vret hx hb hr (fun t ht hW => ⟨⟨(oat_40, ofa_41, z.1 15, z.2.2.1 16, z.2.2.1 17, z.2.2.1 18), rfl, (show (PT (z.1 15) (z.2.2.1 17) (z.2.2.1 18)) ∧ (4 * (z.1 15).toInt ≤ oat_40.toInt) ∧ ((z.1 13).toInt ≤ oat_40.toInt ∧ oat_40.toInt ≤ (z.1 13).toInt + 6) ∧ (ofa_41.toInt = -1 → (z.1 13).toInt < oat_40.toInt ∧ oat_40.toInt ≤ (z.2.2.1 2 (z.1 12).toNatClampNeg).toInt) from ⟨hpt, by omega, by omega, fun q9 => by omega⟩), ⟨by rw [ht]; exact hP, hDa _⟩⟩, hS.F ht⟩) hS.2.2 dX7_partRead_162
        · skip
          have hc_47 := zb_eq rfl (show ((-1) : Int32).toInt = (-1) by decide) c_47
          refine lv_aload_n hx hb dX7_partRead_122 rfl (lv_at hl 1 rfl) ?_
          refine va_get (D := (dC, dI)) (ci := 7) (v := .ref (q 16)) (C := RX7) (T := TX7) (N := 42) hx hb htb inw7 hown hK.1 hP 0 rfl rfl 16 (by decide) (htb _ wmt3_183) (fun _ h9 => h9) rfl dX7_partRead_123 ?_
          refine lv_aload_n hx hb dX7_partRead_126 rfl (lv_at hl 1 rfl) ?_
          refine va_get (D := (dC, dI)) (ci := 7) (v := .int (z.1 15)) (C := RX7) (T := TX7) (N := 42) hx hb htb inw7 hown hK.1 hP 0 rfl rfl 15 (by decide) (htb _ wmt3_182) (fun _ h9 => h9) rfl dX7_partRead_127 ?_
          refine lv_topi (fun x_48 ex_48 => ?_)
          have hx_48 : x_48.toInt = (z.1 15).toInt := by rw [ex_48]
          refine lv_iload_n hx hb dX7_partRead_130 rfl (lv_at hl 2 rfl) ?_
          refine va_iast (D := (dC, dI)) hx hb hK.1 hP (hDa _) hS 10 0 rfl rfl (z_in (by omega)) dX7_partRead_131 (fun H locs hP _ hS => ?_)
          obtain ⟨f_49, ef_49⟩ : ∃ x : Nat → Int32, x = upd (z.2.2.1 16) x_48.toNatClampNeg bb := ⟨_, rfl⟩
          have hP : va_P (dC, dI) vwCl (zM k q (sA (sI (sI z 13 oat_40) 14 ofa_41) 16 f_49)) H := by rw [ef_49]; exact hP
          refine lv_aload_n hx hb dX7_partRead_132 rfl (lv_at hl 1 rfl) ?_
          refine va_get (D := (dC, dI)) (ci := 7) (v := .ref (q 17)) (C := RX7) (T := TX7) (N := 42) hx hb htb inw7 hown hK.1 hP 0 rfl rfl 17 (by decide) (htb _ wmt3_184) (fun _ h9 => h9) rfl dX7_partRead_133 ?_
          refine lv_aload_n hx hb dX7_partRead_136 rfl (lv_at hl 1 rfl) ?_
          refine va_get (D := (dC, dI)) (ci := 7) (v := .int (z.1 15)) (C := RX7) (T := TX7) (N := 42) hx hb htb inw7 hown hK.1 hP 0 rfl rfl 15 (by decide) (htb _ wmt3_182) (fun _ h9 => h9) rfl dX7_partRead_137 ?_
          refine z_top (v2 := .int x_48) (congrArg Value.int ex_48.symm) ?_
          refine lv_iload_n hx hb dX7_partRead_140 rfl (lv_at hl 3 rfl) ?_
          refine va_iast (D := (dC, dI)) hx hb hK.1 hP (hDa _) hS 11 0 rfl rfl (z_in (by omega)) dX7_partRead_141 (fun H locs hP _ hS => ?_)
          obtain ⟨f_50, ef_50⟩ : ∃ x : Nat → Int32, x = upd (z.2.2.1 17) x_48.toNatClampNeg r_9 := ⟨_, rfl⟩
          have hP : va_P (dC, dI) vwCl (zM k q (sA (sA (sI (sI z 13 oat_40) 14 ofa_41) 16 f_49) 17 f_50)) H := by rw [ef_50]; exact hP
          refine lv_aload_n hx hb dX7_partRead_142 rfl (lv_at hl 1 rfl) ?_
          refine va_get (D := (dC, dI)) (ci := 7) (v := .ref (q 18)) (C := RX7) (T := TX7) (N := 42) hx hb htb inw7 hown hK.1 hP 0 rfl rfl 18 (by decide) (htb _ wmt3_185) (fun _ h9 => h9) rfl dX7_partRead_143 ?_
          refine lv_aload_n hx hb dX7_partRead_146 rfl (lv_at hl 1 rfl) ?_
          refine va_get (D := (dC, dI)) (ci := 7) (v := .int (z.1 15)) (C := RX7) (T := TX7) (N := 42) hx hb htb inw7 hown hK.1 hP 0 rfl rfl 15 (by decide) (htb _ wmt3_182) (fun _ h9 => h9) rfl dX7_partRead_147 ?_
          refine z_top (v2 := .int x_48) (congrArg Value.int ex_48.symm) ?_
          refine lv_iload_n hx hb dX7_partRead_150 rfl (lv_at hl 0 rfl) ?_
          refine va_iast (D := (dC, dI)) hx hb hK.1 hP (hDa _) hS 12 0 rfl rfl (z_in (by omega)) dX7_partRead_151 (fun H locs hP _ hS => ?_)
          obtain ⟨f_51, ef_51⟩ : ∃ x : Nat → Int32, x = upd (z.2.2.1 18) x_48.toNatClampNeg r_37 := ⟨_, rfl⟩
          have hP : va_P (dC, dI) vwCl (zM k q (sA (sA (sA (sI (sI z 13 oat_40) 14 ofa_41) 16 f_49) 17 f_50) 18 f_51)) H := by rw [ef_51]; exact hP
          refine lv_aload_n hx hb dX7_partRead_152 rfl (lv_at hl 1 rfl) ?_
          refine lv_dup hx hb dX7_partRead_153 rfl ?_
          refine va_get (D := (dC, dI)) (ci := 7) (v := .int (z.1 15)) (C := RX7) (T := TX7) (N := 42) hx hb htb inw7 hown hK.1 hP 0 rfl rfl 15 (by decide) (htb _ wmt3_182) (fun _ h9 => h9) rfl dX7_partRead_154 ?_
          refine z_top (v2 := .int x_48) (congrArg Value.int ex_48.symm) ?_
          refine lv_iconst (v := 1) hx hb dX7_partRead_157 (by decide) ?_
          refine lv_iadd hx hb dX7_partRead_158 ?_
          refine lv_topi (fun x_52 ex_52 => ?_)
          have hx_52 : x_52.toInt = (z.1 15).toInt + 1 := z_add ex_52 hx_48 (show (1 : Int32).toInt = 1 by decide) (by omega)
          refine va_put (D := (dC, dI)) (ci := 7) (v := .int x_52) (ty := .int) (C := RX7) (T := TX7) (N := 42) hx hb htb inw7 tyX7 tyX7_ok nmX7 hown hK.1 hP (hDa _) hS 0 rfl rfl 15 (by decide) (htb _ wmt3_182) (fun _ h9 => h9) rfl (by decide +kernel) rfl rfl (Nat.le_of_ble_eq_true rfl) dX7_partRead_159 (fun H locs hP _ hS => ?_)
          have hP : va_P (dC, dI) vwCl (zM k q (sI (sA (sA (sA (sI (sI z 13 oat_40) 14 ofa_41) 16 f_49) 17 f_50) 18 f_51) 15 x_52)) H := hP
          exact W.vret hx hb hr (fun t ht hW => ⟨⟨(oat_40, ofa_41, x_52, f_49, f_50, f_51), rfl, (show (PT x_52 f_50 f_51) ∧ (4 * x_52.toInt ≤ oat_40.toInt) ∧ ((z.1 13).toInt ≤ oat_40.toInt ∧ oat_40.toInt ≤ (z.1 13).toInt + 6) ∧ (ofa_41.toInt = -1 → (z.1 13).toInt < oat_40.toInt ∧ oat_40.toInt ≤ (z.2.2.1 2 (z.1 12).toNatClampNeg).toInt) from (by subst ex_48; exact ⟨PT_step hpt (by omega) ex_52 ef_50 ef_51 ⟨by omega, by omega, by omega, by omega⟩, by omega, by omega, fun _ => ⟨by omega, by omega⟩⟩)), ⟨by rw [ht]; exact hP, hDa _⟩⟩, hS.F ht⟩) hS.2.2 dX7_partRead_162
    · skip
      refine lv_aload_n hx hb dX7_partRead_62 rfl (lv_at hl 1 rfl) ?_
      refine va_get (D := (dC, dI)) (ci := 7) (v := .int ofa_13) (C := RX7) (T := TX7) (N := 42) hx hb htb inw7 hown hK.1 hP 0 rfl rfl 14 (by decide) (htb _ wmt3_181) (fun _ h9 => h9) rfl dX7_partRead_63 ?_
      refine lv_iconst (v := (-1)) hx hb dX7_partRead_66 (by decide) ?_
      refine lv_icmp_ne (tgt := 87) hx hb dX7_partRead_67 (by decide) (fun c_53 => ?_) (fun c_53 => ?_)
      · skip
        have hc_53 := zb_ne rfl (show ((-1) : Int32).toInt = (-1) by decide) c_53
        exact hj87 ofa_13 H locs ls (show ofa_13.toInt = -1 → ofa_13.toInt = -1 ∧ oat_12.toInt < (z.2.2.1 2 (z.1 12).toNatClampNeg).toInt from (fun q9 => by omega)) hP hS (lv_sub hl [1, 2, 0] rfl)
      · skip
        have hc_53 := zb_eq rfl (show ((-1) : Int32).toInt = (-1) by decide) c_53
        refine lv_aload_n hx hb dX7_partRead_70 rfl (lv_at hl 1 rfl) ?_
        refine zcA_i (w := (zM k q (sI (sI z 13 oat_12) 14 ofa_13))) (va_runV (As := []) (rest := []) ⟨hx, hb, hml, hown, htb⟩ (c_X7_byteNow l dC dI k q (sI (sI z 13 oat_12) 14 ofa_13) _ (show 0 ≤ (z.1 12).toInt ∧ (z.1 12).toInt < 4 by omega) hm4 (show 0 ≤ oat_12.toInt ∧ oat_12.toInt ≤ 1000 by omega)) (cwV 0 htb (gzV wmt4_85 wmt4_87 wmp2_9 wmt1_8 wmt4_88) rfl rfl rfl (by decide +kernel) ⟨Nat.le_of_ble_eq_true rfl, Nat.le_of_ble_eq_true rfl⟩) (zpA_V (ci := 7) (q0 := 0) hK hP (hDa _) rfl rfl) rfl rfl hl.1 rfl (lv_room (Nat.le_of_ble_eq_true rfl)) dX7_partRead_71 ⟨Nat.le_of_ble_eq_true rfl, Nat.le_of_ble_eq_true rfl⟩) (hDa _) hS hA (fun r_54 u_55 H locs w_56 hP _ hS => ?_)
        obtain ⟨h_57, h_58⟩ := w_56
        replace h_57 : (oat_12).toInt < ((z.2.2.1 2) ((z.1 12)).toNatClampNeg).toInt ∨ r_54.toInt = -1 := h_57
        replace h_58 : r_54.toInt = bN (oat_12) ((z.1 12)) ((z.2.2.1 2)) ((z.2.2.1 3)) := h_58
        refine lv_bipush (v := 47) hx hb dX7_partRead_74 (by decide) ?_
        refine lv_icmp_eq (tgt := 87) hx hb dX7_partRead_76 (by decide) (fun c_60 => ?_) (fun c_60 => ?_)
        · skip
          have hc_60 := zb_eq rfl (show (47 : Int32).toInt = 47 by decide) c_60
          exact hj87 ofa_13 H locs ls (show ofa_13.toInt = -1 → ofa_13.toInt = -1 ∧ oat_12.toInt < (z.2.2.1 2 (z.1 12).toNatClampNeg).toInt from (fun q9 => by omega)) hP hS (lv_sub hl [1, 2, 0] rfl)
        · skip
          have hc_60 := zb_ne rfl (show (47 : Int32).toInt = 47 by decide) c_60
          refine lv_aload_n hx hb dX7_partRead_79 rfl (lv_at hl 1 rfl) ?_
          refine lv_aload_n hx hb dX7_partRead_80 rfl (lv_at hl 1 rfl) ?_
          refine va_get (D := (dC, dI)) (ci := 7) (v := .int oat_12) (C := RX7) (T := TX7) (N := 42) hx hb htb inw7 hown hK.1 hP 0 rfl rfl 13 (by decide) (htb _ wmt3_180) (fun _ h9 => h9) rfl dX7_partRead_81 ?_
          refine va_put (D := (dC, dI)) (ci := 7) (v := .int oat_12) (ty := .int) (C := RX7) (T := TX7) (N := 42) hx hb htb inw7 tyX7 tyX7_ok nmX7 hown hK.1 hP (hDa _) hS 0 rfl rfl 14 (by decide) (htb _ wmt3_181) (fun _ h9 => h9) rfl (by decide +kernel) rfl rfl (Nat.le_of_ble_eq_true rfl) dX7_partRead_84 (fun H locs hP _ hS => ?_)
          have hP : va_P (dC, dI) vwCl (zM k q (sI (sI z 13 oat_12) 14 oat_12)) H := hP
          exact hj87 oat_12 H locs ls (show oat_12.toInt = -1 → ofa_13.toInt = -1 ∧ oat_12.toInt < (z.2.2.1 2 (z.1 12).toNatClampNeg).toInt from (fun q9 => by omega)) hP hS (lv_sub hl [1, 2, 0] rfl)
  · skip
    refine lv_iload_n hx hb dX7_partRead_5 rfl (lv_at hl 0 rfl) ?_
    refine lv_bipush (v := 116) hx hb dX7_partRead_6 (by decide) ?_
    refine lv_icmp_eq (tgt := 44) hx hb dX7_partRead_8 (by decide) (fun c_61 => ?_) (fun c_61 => ?_)
    · skip
      have hc_61 := zb_eq rfl (show (116 : Int32).toInt = 116 by decide) c_61
      exact hj44 r_1 H locs ls trivial hP hS (lv_sub hl [1, 0] rfl)
    · skip
      have hc_61 := zb_ne rfl (show (116 : Int32).toInt = 116 by decide) c_61
      refine lv_iload_n hx hb dX7_partRead_11 rfl (lv_at hl 0 rfl) ?_
      refine lv_bipush (v := 111) hx hb dX7_partRead_12 (by decide) ?_
      refine lv_icmp_eq (tgt := 44) hx hb dX7_partRead_14 (by decide) (fun c_62 => ?_) (fun c_62 => ?_)
      · skip
        have hc_62 := zb_eq rfl (show (111 : Int32).toInt = 111 by decide) c_62
        exact hj44 r_1 H locs ls trivial hP hS (lv_sub hl [1, 0] rfl)
      · skip
        have hc_62 := zb_ne rfl (show (111 : Int32).toInt = 111 by decide) c_62
        refine lv_iload_n hx hb dX7_partRead_17 rfl (lv_at hl 0 rfl) ?_
        refine lv_bipush (v := 121) hx hb dX7_partRead_18 (by decide) ?_
        refine lv_icmp_eq (tgt := 44) hx hb dX7_partRead_20 (by decide) (fun c_63 => ?_) (fun c_63 => ?_)
        · skip
          have hc_63 := zb_eq rfl (show (121 : Int32).toInt = 121 by decide) c_63
          exact hj44 r_1 H locs ls trivial hP hS (lv_sub hl [1, 0] rfl)
        · skip
          have hc_63 := zb_ne rfl (show (121 : Int32).toInt = 121 by decide) c_63
          refine lv_iload_n hx hb dX7_partRead_23 rfl (lv_at hl 0 rfl) ?_
          refine lv_bipush (v := 110) hx hb dX7_partRead_24 (by decide) ?_
          refine lv_icmp_eq (tgt := 44) hx hb dX7_partRead_26 (by decide) (fun c_64 => ?_) (fun c_64 => ?_)
          · skip
            have hc_64 := zb_eq rfl (show (110 : Int32).toInt = 110 by decide) c_64
            exact hj44 r_1 H locs ls trivial hP hS (lv_sub hl [1, 0] rfl)
          · skip
            have hc_64 := zb_ne rfl (show (110 : Int32).toInt = 110 by decide) c_64
            refine lv_iload_n hx hb dX7_partRead_29 rfl (lv_at hl 0 rfl) ?_
            refine lv_bipush (v := 117) hx hb dX7_partRead_30 (by decide) ?_
            refine lv_icmp_eq (tgt := 44) hx hb dX7_partRead_32 (by decide) (fun c_65 => ?_) (fun c_65 => ?_)
            · skip
              have hc_65 := zb_eq rfl (show (117 : Int32).toInt = 117 by decide) c_65
              exact hj44 r_1 H locs ls trivial hP hS (lv_sub hl [1, 0] rfl)
            · skip
              have hc_65 := zb_ne rfl (show (117 : Int32).toInt = 117 by decide) c_65
              refine lv_aload_n hx hb dX7_partRead_35 rfl (lv_at hl 1 rfl) ?_
              refine lv_aload_n hx hb dX7_partRead_36 rfl (lv_at hl 1 rfl) ?_
              refine va_get (D := (dC, dI)) (ci := 7) (v := .int (z.1 13)) (C := RX7) (T := TX7) (N := 42) hx hb htb inw7 hown hK.1 hP 0 rfl rfl 13 (by decide) (htb _ wmt3_180) (fun _ h9 => h9) rfl dX7_partRead_37 ?_
              refine lv_topi (fun x_66 ex_66 => ?_)
              have hx_66 : x_66.toInt = (z.1 13).toInt := by rw [ex_66]
              refine va_put (D := (dC, dI)) (ci := 7) (v := .int x_66) (ty := .int) (C := RX7) (T := TX7) (N := 42) hx hb htb inw7 tyX7 tyX7_ok nmX7 hown hK.1 hP (hDa _) hS 0 rfl rfl 14 (by decide) (htb _ wmt3_181) (fun _ h9 => h9) rfl (by decide +kernel) rfl rfl (Nat.le_of_ble_eq_true rfl) dX7_partRead_40 (fun H locs hP _ hS => ?_)
              have hP : va_P (dC, dI) vwCl (zM k q (sI z 14 x_66)) H := hP
              exact W.vret hx hb hr (fun t ht hW => ⟨⟨(z.1 13, x_66, z.1 15, z.2.2.1 16, z.2.2.1 17, z.2.2.1 18), rfl, (show (PT (z.1 15) (z.2.2.1 17) (z.2.2.1 18)) ∧ (4 * (z.1 15).toInt ≤ (z.1 13).toInt) ∧ ((z.1 13).toInt ≤ (z.1 13).toInt ∧ (z.1 13).toInt ≤ (z.1 13).toInt + 6) ∧ (x_66.toInt = -1 → (z.1 13).toInt < (z.1 13).toInt ∧ (z.1 13).toInt ≤ (z.2.2.1 2 (z.1 12).toNatClampNeg).toInt) from ⟨hpt, by omega, by omega, fun q9 => by omega⟩), ⟨by rw [ht]; exact hP, hDa _⟩⟩, hS.F ht⟩) hS.2.2 dX7_partRead_43
