set_option maxHeartbeats 4000000 in
set_option maxRecDepth 100000 in
theorem c_X7_givenOf (l : Launch) (dC : Nat → ClassId) (dI : Nat → Nat → Nat) (k : Nat → ClassId) (q : Nat → Nat) (z : ZS) (pe : Int32) (sz : Nat) (hI : MInv z) : Met l yX7_givenOf (wz yX7_givenOf cX7_givenOf 11 (some .int)) ({ frames := 5, cells := 0, slots := 0, locals := 114 }) (va_Pc [.ref (q 0), .int pe] (zPre dC dI k (zTX k) (zM k q z) sz)) (va_Qi (fun (r : Int32) (u : (Nat → Int32) × (Nat → Int32) × (Nat → Int32) × (Nat → Int32) × (Nat → Int32) × (Nat → Int32) × (Nat → Int32) × Int32 × Int32 × Int32 × Int32 × (Nat → Int32) × (Nat → Int32) × (Nat → Int32) × Int64 × Int64 × Int32 × (Nat → Int32)) => (MD (FR (z.2.2.1 2) (z.2.2.1 3)) u.1 u.2.1 u.2.2.1 u.2.2.2.1 u.2.2.2.2.1 u.2.2.2.2.2.1 u.2.2.2.2.2.2.1) ∧ (r.toInt = 0 → (0 ≤ u.2.2.2.2.2.2.2.2.2.2.2.2.2.2.1.toInt ∧ u.2.2.2.2.2.2.2.2.2.2.2.2.2.2.1.toInt ≤ 1000000000) ∧ (1 ≤ u.2.2.2.2.2.2.2.2.2.2.2.2.2.2.2.1.toInt ∧ u.2.2.2.2.2.2.2.2.2.2.2.2.2.2.2.1.toInt ≤ 1000000000)) ∧ (RK (z.2.2.1 4) (z.2.2.1 5) u.1 u.2.1)) (fun u t => zPost dC dI (va_A (zM k q z) sz) (zM k q (sA (sI (sJ (sJ (sA (sA (sA (sI (sI (sI (sI (sA (sA (sA (sA (sA (sA (sA z 4 u.1) 5 u.2.1) 6 u.2.2.1) 7 u.2.2.2.1) 8 u.2.2.2.2.1) 9 u.2.2.2.2.2.1) 10 u.2.2.2.2.2.2.1) 12 u.2.2.2.2.2.2.2.1) 13 u.2.2.2.2.2.2.2.2.1) 14 u.2.2.2.2.2.2.2.2.2.1) 15 u.2.2.2.2.2.2.2.2.2.2.1) 16 u.2.2.2.2.2.2.2.2.2.2.2.1) 17 u.2.2.2.2.2.2.2.2.2.2.2.2.1) 18 u.2.2.2.2.2.2.2.2.2.2.2.2.2.1) 0 u.2.2.2.2.2.2.2.2.2.2.2.2.2.2.1) 1 u.2.2.2.2.2.2.2.2.2.2.2.2.2.2.2.1) 33 u.2.2.2.2.2.2.2.2.2.2.2.2.2.2.2.2.1) 34 u.2.2.2.2.2.2.2.2.2.2.2.2.2.2.2.2.2)) t) (va_A (zM k q z) sz)) 0 0 (va_A (zM k q z) sz) := by
  refine Met.ofW (cc := cX7_givenOf) (maxL := 11) (ret := (some .int)) (by decide) rfl ?_
  intro p e s m args below meth c s₁ B hml hv
  obtain ⟨rfl, hsz, hP, hK, hD0⟩ := hv
  have hx := B.exec
  have hb := B.bytes
  have hr := B.returns
  have hts := atoms_spec (ws := wz yX7_givenOf cX7_givenOf 11 (some .int)) B.pre
  have htb : ∀ w ∈ zw, w.before _ s = true := fun w h => hts w (List.mem_cons_of_mem _ h)
  have hown : s.vm.findClass RX7 = some m.cls := findClass_of_methodNamed B.named
  have hlocks := B.notSynchronized
  clear hts
  subst hsz
  have hD := hD0.self (sz := s.heap.size)
  generalize hAe : va_A (zM k q z) s.heap.size = A at hD ⊢
  have hA : ∀ q : Nat, s.heap.size ≤ q → A q := fun q h => by rw [← hAe]; exact Or.inr h
  have hDa : ∀ z9 : ZS, va_D A (zM k q z9) := fun z9 => va_D_adr (w := zM k q z) rfl hD
  have hl := lv_entry ([.ref (q 0), .int pe]) (n := 11) (Nat.le_of_ble_eq_true rfl)
  rw [lg_entry_eq]
  generalize (lg_sl ([.ref (q 0), .int pe]) ++ List.replicate (11 - (lg_sl ([.ref (q 0), .int pe])).length) Slot.unset).toArray = ls at hl ⊢
  have hl : lv_has ls 11 [(0, .ref (q 0)), (1, .int pe)] := hl
  refine z_start2 (A := A) (w := (zM k q z)) hP (fun H locs hP hS => ?_)
  clear hD0 hAe
  have ha0 := hI.1.1.1
  have ha1 := hI.1.1.2.1
  refine lv_iconst (v := 0) hx hb dX7_givenOf_0 (by decide) ?_
  refine lv_istore_n (lv' := [(2, .int 0), (0, .ref (q 0)), (1, .int pe)]) hx hb dX7_givenOf_1 rfl hl (by decide) rfl (fun ls hl => ?_)
  refine lv_iconst (v := 0) hx hb dX7_givenOf_2 (by decide) ?_
  refine lv_istore_n (lv' := [(3, .int 0), (2, .int 0), (0, .ref (q 0)), (1, .int pe)]) hx hb dX7_givenOf_3 rfl hl (by decide) rfl (fun ls hl => ?_)
  refine lv_aload_n hx hb dX7_givenOf_4 rfl (lv_at hl 2 rfl) ?_
  refine lv_iconst (v := 0) hx hb dX7_givenOf_5 (by decide) ?_
  refine va_put (D := (dC, dI)) (ci := 7) (v := .int 0) (ty := .boolean) (C := RX7) (T := TX7) (N := 42) hx hb htb inw7 tyX7 tyX7_ok nmX7 hown hK.1 hP (hDa _) hS 0 rfl rfl 33 (by decide) (htb _ wmt3_200) (fun _ h9 => h9) rfl (by decide +kernel) rfl rfl (Nat.le_of_ble_eq_true rfl) dX7_givenOf_6 (fun H locs hP _ hS => ?_)
  have hP : va_P (dC, dI) vwCl (zM k q (sI z 33 0)) H := hP
  refine lv_lconst (v := 1) hx hb dX7_givenOf_9 (by decide) ?_
  refine lv_lstore (lv' := [(4, .long 1), (3, .int 0), (2, .int 0), (0, .ref (q 0)), (1, .int pe)]) hx hb dX7_givenOf_10 hl (by decide) rfl (fun ls hl => ?_)
  refine lv_lconst (v := 1) hx hb dX7_givenOf_12 (by decide) ?_
  refine lv_lstore (lv' := [(6, .long 1), (4, .long 1), (3, .int 0), (2, .int 0), (0, .ref (q 0)), (1, .int pe)]) hx hb dX7_givenOf_13 hl (by decide) rfl (fun ls hl => ?_)
  refine lv_iconst (v := 0) hx hb dX7_givenOf_15 (by decide) ?_
  refine lv_istore (lv' := [(8, .int 0), (6, .long 1), (4, .long 1), (3, .int 0), (2, .int 0), (0, .ref (q 0)), (1, .int pe)]) hx hb dX7_givenOf_16 hl (by decide) rfl (fun ls hl => ?_)
  obtain ⟨fl, efl⟩ : ∃ x : Int32, 0 = x := ⟨_, rfl⟩
  obtain ⟨dd, edd⟩ : ∃ x : Int32, 0 = x := ⟨_, rfl⟩
  obtain ⟨co4, eco4⟩ : ∃ x : Nat → Int32, z.2.2.1 4 = x := ⟨_, rfl⟩
  obtain ⟨co5, eco5⟩ : ∃ x : Nat → Int32, z.2.2.1 5 = x := ⟨_, rfl⟩
  obtain ⟨co6, eco6⟩ : ∃ x : Nat → Int32, z.2.2.1 6 = x := ⟨_, rfl⟩
  obtain ⟨co7, eco7⟩ : ∃ x : Nat → Int32, z.2.2.1 7 = x := ⟨_, rfl⟩
  obtain ⟨co8, eco8⟩ : ∃ x : Nat → Int32, z.2.2.1 8 = x := ⟨_, rfl⟩
  obtain ⟨co9, eco9⟩ : ∃ x : Nat → Int32, z.2.2.1 9 = x := ⟨_, rfl⟩
  obtain ⟨co10, eco10⟩ : ∃ x : Nat → Int32, z.2.2.1 10 = x := ⟨_, rfl⟩
  obtain ⟨co12, eco12⟩ : ∃ x : Int32, z.1 12 = x := ⟨_, rfl⟩
  obtain ⟨co13, eco13⟩ : ∃ x : Int32, z.1 13 = x := ⟨_, rfl⟩
  obtain ⟨co14, eco14⟩ : ∃ x : Int32, z.1 14 = x := ⟨_, rfl⟩
  obtain ⟨co15, eco15⟩ : ∃ x : Int32, z.1 15 = x := ⟨_, rfl⟩
  obtain ⟨co16, eco16⟩ : ∃ x : Nat → Int32, z.2.2.1 16 = x := ⟨_, rfl⟩
  obtain ⟨co17, eco17⟩ : ∃ x : Nat → Int32, z.2.2.1 17 = x := ⟨_, rfl⟩
  obtain ⟨co18, eco18⟩ : ∃ x : Nat → Int32, z.2.2.1 18 = x := ⟨_, rfl⟩
  have hv18 : (0 ≤ dd.toInt ∧ dd.toInt ≤ 4) ∧ (MInv (sA (sA (sA (sI (sI (sI (sI (sA (sA (sA (sA (sA (sA (sA (sI z 33 0) 4 co4) 5 co5) 6 co6) 7 co7) 8 co8) 9 co9) 10 co10) 12 co12) 13 co13) 14 co14) 15 co15) 16 co16) 17 co17) 18 co18)) ∧ (RK (z.2.2.1 4) (z.2.2.1 5) co4 co5) ∧ (fl.toInt = 0 → GI z pe co4 co5 dd.toInt 0) := by subst efl edd eco4 eco5 eco6 eco7 eco8 eco9 eco10 eco12 eco13 eco14 eco15 eco16 eco17 eco18; exact ⟨(by decide), hI, RK_refl, (fun _ => GI_0 hI)⟩
  replace hl : lv_has ls 11 [(8, .int dd), (6, .long 1), (4, .long 1), (3, .int 0), (2, .int fl), (0, .ref (q 0)), (1, .int pe)] := by subst efl edd eco4 eco5 eco6 eco7 eco8 eco9 eco10 eco12 eco13 eco14 eco15 eco16 eco17 eco18; exact hl
  replace hP : va_P (dC, dI) vwCl (zM k q (sA (sA (sA (sI (sI (sI (sI (sA (sA (sA (sA (sA (sA (sA (sI z 33 0) 4 co4) 5 co5) 6 co6) 7 co7) 8 co8) 9 co9) 10 co10) 12 co12) 13 co13) 14 co14) 15 co15) 16 co16) 17 co17) 18 co18)) H := by subst eco4 eco5 eco6 eco7 eco8 eco9 eco10 eco12 eco13 eco14 eco15 eco16 eco17 eco18; exact hP
  clear efl edd eco4 eco5 eco6 eco7 eco8 eco9 eco10 eco12 eco13 eco14 eco15 eco16 eco17 eco18
  obtain ⟨mm18, hm18⟩ : ∃ mm : Nat, mm = (4 - dd.toInt).toNat := ⟨_, rfl⟩
  refine z_cut2 hP hS hl ?_
  clear hl hP
  intro H locs ls hP hS hl
  induction mm18 using Nat.strongRecOn generalizing fl dd co4 co5 co6 co7 co8 co9 co10 co12 co13 co14 co15 co16 co17 co18 H locs ls with
  | _ mm18 ih18 =>
    obtain ⟨hdd, hI1, hrk1, hgi1⟩ := hv18
    have hI := hI1
    refine lv_iload hx hb dX7_givenOf_18 (lv_at hl 0 rfl) ?_
    refine lv_iconst (v := 4) hx hb dX7_givenOf_20 (by decide) ?_
    refine lv_icmp_ge (tgt := 112) hx hb dX7_givenOf_21 (by decide) (fun c_1 => ?_) (fun c_1 => ?_)
    · skip
      have hc_1 := zb_le (show (4 : Int32).toInt = 4 by decide) rfl c_1
      refine lv_iload_n hx hb dX7_givenOf_112 rfl (lv_at hl 4 rfl) ?_
      refine lv_if_eq (tgt := 119) hx hb dX7_givenOf_113 (by decide) (fun c_2 => ?_) (fun c_2 => ?_)
      · skip
        have hc_2 := zb_eq rfl (show (0 : Int32).toInt = 0 by decide) c_2
        have hgi0 := hgi1 (by omega)
        refine lv_iconst (v := 0) hx hb dX7_givenOf_119 (by decide) ?_
        refine lv_istore (lv' := [(8, .int 0), (6, .long 1), (4, .long 1), (3, .int 0), (2, .int fl), (0, .ref (q 0)), (1, .int pe)]) hx hb dX7_givenOf_120 hl (by decide) rfl (fun ls hl => ?_)
        obtain ⟨jc, ejc⟩ : ∃ x : Int32, 0 = x := ⟨_, rfl⟩
        obtain ⟨ct, ect⟩ : ∃ x : Nat → Int32, z.2.2.1 34 = x := ⟨_, rfl⟩
        have hv122 : (0 ≤ jc.toInt ∧ jc.toInt ≤ 4) := by subst ejc ect; exact (by decide)
        replace hl : lv_has ls 11 [(8, .int jc), (6, .long 1), (4, .long 1), (3, .int 0), (2, .int fl), (0, .ref (q 0)), (1, .int pe)] := by subst ejc ect; exact hl
        replace hP : va_P (dC, dI) vwCl (zM k q (sA (sA (sA (sA (sI (sI (sI (sI (sA (sA (sA (sA (sA (sA (sA (sI z 33 0) 4 co4) 5 co5) 6 co6) 7 co7) 8 co8) 9 co9) 10 co10) 12 co12) 13 co13) 14 co14) 15 co15) 16 co16) 17 co17) 18 co18) 34 ct)) H := by subst ect; exact hP
        clear ejc ect
        obtain ⟨mm122, hm122⟩ : ∃ mm : Nat, mm = (4 - jc.toInt).toNat := ⟨_, rfl⟩
        refine z_cut2 hP hS hl ?_
        clear hl hP
        intro H locs ls hP hS hl
        induction mm122 using Nat.strongRecOn generalizing jc ct H locs ls with
        | _ mm122 ih122 =>
          have hjc := hv122
          refine lv_iload hx hb dX7_givenOf_122 (lv_at hl 0 rfl) ?_
          refine lv_iconst (v := 4) hx hb dX7_givenOf_124 (by decide) ?_
          refine lv_icmp_ge (tgt := 142) hx hb dX7_givenOf_125 (by decide) (fun c_3 => ?_) (fun c_3 => ?_)
          · skip
            have hc_3 := zb_le (show (4 : Int32).toInt = 4 by decide) rfl c_3
            refine lv_iconst (v := 0) hx hb dX7_givenOf_142 (by decide) ?_
            refine lv_istore (lv' := [(8, .int 0), (6, .long 1), (4, .long 1), (3, .int 0), (2, .int fl), (0, .ref (q 0)), (1, .int pe)]) hx hb dX7_givenOf_143 hl (by decide) rfl (fun ls hl => ?_)
            obtain ⟨fu, efu⟩ : ∃ x : Int32, 0 = x := ⟨_, rfl⟩
            obtain ⟨tp, etp⟩ : ∃ x : Int64, 1 = x := ⟨_, rfl⟩
            obtain ⟨bt, ebt⟩ : ∃ x : Int64, 1 = x := ⟨_, rfl⟩
            obtain ⟨ja, eja⟩ : ∃ x : Int32, 0 = x := ⟨_, rfl⟩
            obtain ⟨ja0, eja0⟩ : ∃ x : Int64, z.2.1 0 = x := ⟨_, rfl⟩
            obtain ⟨jb0, ejb0⟩ : ∃ x : Int64, z.2.1 1 = x := ⟨_, rfl⟩
            obtain ⟨nn0, enn0⟩ : ∃ x : Int32, 0 = x := ⟨_, rfl⟩
            obtain ⟨ct2, ect2⟩ : ∃ x : Nat → Int32, ct = x := ⟨_, rfl⟩
            have hv145 : (0 ≤ ja.toInt ∧ ja.toInt ≤ 120) ∧ (0 ≤ tp.toInt ∧ 1 ≤ bt.toInt) ∧ (fu.toInt = 0 → tp.toInt ≤ 1000000000 ∧ bt.toInt ≤ 1000000000) := by subst efu etp ebt eja eja0 ejb0 enn0 ect2; exact ⟨(by decide), (by decide), (fun _ => by decide)⟩
            replace hl : lv_has ls 11 [(8, .int ja), (6, .long bt), (4, .long tp), (3, .int fu), (2, .int fl), (0, .ref (q 0)), (1, .int pe)] := by subst efu etp ebt eja eja0 ejb0 enn0 ect2; exact hl
            replace hP : va_P (dC, dI) vwCl (zM k q (sA (sI (sJ (sJ (sA (sA (sA (sI (sI (sI (sI (sA (sA (sA (sA (sA (sA (sA z 4 co4) 5 co5) 6 co6) 7 co7) 8 co8) 9 co9) 10 co10) 12 co12) 13 co13) 14 co14) 15 co15) 16 co16) 17 co17) 18 co18) 0 ja0) 1 jb0) 33 nn0) 34 ct2)) H := by subst eja0 ejb0 enn0 ect2; exact hP
            clear efu etp ebt eja eja0 ejb0 enn0 ect2
            obtain ⟨mm145, hm145⟩ : ∃ mm : Nat, mm = (120 - ja.toInt).toNat := ⟨_, rfl⟩
            refine z_cut2 hP hS hl ?_
            clear hl hP
            intro H locs ls hP hS hl
            induction mm145 using Nat.strongRecOn generalizing fu tp bt ja ja0 jb0 nn0 ct2 H locs ls with
            | _ mm145 ih145 =>
              obtain ⟨hja, htp, hfu⟩ := hv145
              refine lv_iload hx hb dX7_givenOf_145 (lv_at hl 0 rfl) ?_
              refine lv_aload_n hx hb dX7_givenOf_147 rfl (lv_at hl 5 rfl) ?_
              refine va_get (D := (dC, dI)) (ci := 7) (v := .int (z.1 22)) (C := RX7) (T := TX7) (N := 42) hx hb htb inw7 hown hK.1 hP 0 rfl rfl 22 (by decide) (htb _ wmt3_189) (fun _ h9 => h9) rfl dX7_givenOf_148 ?_
              refine lv_topi (fun x_4 ex_4 => ?_)
              have hx_4 : x_4.toInt = (z.1 22).toInt := by rw [ex_4]
              refine lv_icmp_ge (tgt := 310) hx hb dX7_givenOf_151 (by decide) (fun c_5 => ?_) (fun c_5 => ?_)
              · skip
                have hc_5 := zb_le rfl rfl c_5
                refine lv_aload_n hx hb dX7_givenOf_310 rfl (lv_at hl 5 rfl) ?_
                refine va_get (D := (dC, dI)) (ci := 7) (v := .int nn0) (C := RX7) (T := TX7) (N := 42) hx hb htb inw7 hown hK.1 hP 0 rfl rfl 33 (by decide) (htb _ wmt3_200) (fun _ h9 => h9) rfl dX7_givenOf_311 ?_
                refine lv_if_eq (tgt := 320) hx hb dX7_givenOf_314 (by decide) (fun c_6 => ?_) (fun c_6 => ?_)
                · skip
                  have hc_6 := zb_eq rfl (show (0 : Int32).toInt = 0 by decide) c_6
                  refine lv_aload_n hx hb dX7_givenOf_320 rfl (lv_at hl 5 rfl) ?_
                  refine lv_lload hx hb dX7_givenOf_321 (lv_at hl 2 rfl) ?_
                  refine va_put (D := (dC, dI)) (ci := 7) (v := .long tp) (ty := .long) (C := RX7) (T := TX7) (N := 42) hx hb htb inw7 tyX7 tyX7_ok nmX7 hown hK.1 hP (hDa _) hS 0 rfl rfl 0 (by decide) (htb _ wmt3_167) (fun _ h9 => h9) rfl (by decide +kernel) rfl rfl (Nat.le_of_ble_eq_true rfl) dX7_givenOf_323 (fun H locs hP _ hS => ?_)
                  have hP : va_P (dC, dI) vwCl (zM k q (sJ (sA (sI (sJ (sA (sA (sA (sI (sI (sI (sI (sA (sA (sA (sA (sA (sA (sA z 4 co4) 5 co5) 6 co6) 7 co7) 8 co8) 9 co9) 10 co10) 12 co12) 13 co13) 14 co14) 15 co15) 16 co16) 17 co17) 18 co18) 1 jb0) 33 nn0) 34 ct2) 0 tp)) H := hP
                  refine lv_aload_n hx hb dX7_givenOf_326 rfl (lv_at hl 5 rfl) ?_
                  refine lv_lload hx hb dX7_givenOf_327 (lv_at hl 1 rfl) ?_
                  refine va_put (D := (dC, dI)) (ci := 7) (v := .long bt) (ty := .long) (C := RX7) (T := TX7) (N := 42) hx hb htb inw7 tyX7 tyX7_ok nmX7 hown hK.1 hP (hDa _) hS 0 rfl rfl 1 (by decide) (htb _ wmt3_168) (fun _ h9 => h9) rfl (by decide +kernel) rfl rfl (Nat.le_of_ble_eq_true rfl) dX7_givenOf_329 (fun H locs hP _ hS => ?_)
                  have hP : va_P (dC, dI) vwCl (zM k q (sJ (sJ (sA (sI (sA (sA (sA (sI (sI (sI (sI (sA (sA (sA (sA (sA (sA (sA z 4 co4) 5 co5) 6 co6) 7 co7) 8 co8) 9 co9) 10 co10) 12 co12) 13 co13) 14 co14) 15 co15) 16 co16) 17 co17) 18 co18) 33 nn0) 34 ct2) 0 tp) 1 bt)) H := hP
                  refine lv_iload_n hx hb dX7_givenOf_332 rfl (lv_at hl 3 rfl) ?_
                  refine lv_if_eq (tgt := 341) hx hb dX7_givenOf_333 (by decide) (fun c_7 => ?_) (fun c_7 => ?_)
                  · skip
                    have hc_7 := zb_eq rfl (show (0 : Int32).toInt = 0 by decide) c_7
                    refine lv_iconst (v := 0) hx hb dX7_givenOf_341 (by decide) ?_
                    exact W.iret (v := 0) hx hb hr (fun t ht hW => ⟨⟨0, (co4, co5, co6, co7, co8, co9, co10, co12, co13, co14, co15, co16, co17, co18, tp, bt, nn0, ct2), rfl, (show (MD (FR (z.2.2.1 2) (z.2.2.1 3)) co4 co5 co6 co7 co8 co9 co10) ∧ ((0 : Int32).toInt = 0 → (0 ≤ tp.toInt ∧ tp.toInt ≤ 1000000000) ∧ (1 ≤ bt.toInt ∧ bt.toInt ≤ 1000000000)) ∧ (RK (z.2.2.1 4) (z.2.2.1 5) co4 co5) from ⟨hI.2.2.2.2.2, fun _ => by omega, hrk1⟩), ⟨by rw [ht]; exact hP, hDa _⟩⟩, hS.F ht⟩) hS.2.2 dX7_givenOf_342
                  · skip
                    have hc_7 := zb_ne rfl (show (0 : Int32).toInt = 0 by decide) c_7
                    refine lv_bipush (v := (-4)) hx hb dX7_givenOf_336 (by decide) ?_
                    refine lv_goto (tgt := 342) hx hb dX7_givenOf_338 (by decide) ?_
                    exact W.iret (v := (-4)) hx hb hr (fun t ht hW => ⟨⟨(-4), (co4, co5, co6, co7, co8, co9, co10, co12, co13, co14, co15, co16, co17, co18, tp, bt, nn0, ct2), rfl, (show (MD (FR (z.2.2.1 2) (z.2.2.1 3)) co4 co5 co6 co7 co8 co9 co10) ∧ (((-4) : Int32).toInt = 0 → (0 ≤ tp.toInt ∧ tp.toInt ≤ 1000000000) ∧ (1 ≤ bt.toInt ∧ bt.toInt ≤ 1000000000)) ∧ (RK (z.2.2.1 4) (z.2.2.1 5) co4 co5) from ⟨hI.2.2.2.2.2, fun q9 => absurd q9 (by decide), hrk1⟩), ⟨by rw [ht]; exact hP, hDa _⟩⟩, hS.F ht⟩) hS.2.2 dX7_givenOf_342
                · skip
                  have hc_6 := zb_ne rfl (show (0 : Int32).toInt = 0 by decide) c_6
                  refine lv_bipush (v := (-3)) hx hb dX7_givenOf_317 (by decide) ?_
                  exact W.iret (v := (-3)) hx hb hr (fun t ht hW => ⟨⟨(-3), (co4, co5, co6, co7, co8, co9, co10, co12, co13, co14, co15, co16, co17, co18, ja0, jb0, nn0, ct2), rfl, (show (MD (FR (z.2.2.1 2) (z.2.2.1 3)) co4 co5 co6 co7 co8 co9 co10) ∧ (((-3) : Int32).toInt = 0 → (0 ≤ ja0.toInt ∧ ja0.toInt ≤ 1000000000) ∧ (1 ≤ jb0.toInt ∧ jb0.toInt ≤ 1000000000)) ∧ (RK (z.2.2.1 4) (z.2.2.1 5) co4 co5) from ⟨hI.2.2.2.2.2, fun q9 => absurd q9 (by decide), hrk1⟩), ⟨by rw [ht]; exact hP, hDa _⟩⟩, hS.F ht⟩) hS.2.2 dX7_givenOf_319
              · skip
                have hc_5 := zb_nle rfl rfl c_5
                refine lv_aload_n hx hb dX7_givenOf_154 rfl (lv_at hl 5 rfl) ?_
                refine va_get (D := (dC, dI)) (ci := 7) (v := .ref (q 24)) (C := RX7) (T := TX7) (N := 42) hx hb htb inw7 hown hK.1 hP 0 rfl rfl 24 (by decide) (htb _ wmt3_191) (fun _ h9 => h9) rfl dX7_givenOf_155 ?_
                refine lv_iload hx hb dX7_givenOf_158 (lv_at hl 0 rfl) ?_
                refine va_iald (D := (dC, dI)) hx hb hK.1 hP 15 0 rfl rfl (z_in (by omega)) dX7_givenOf_160 ?_
                refine lv_topi (fun x_8 ex_8 => ?_)
                replace ex_8 : x_8 = (z.2.2.1 24) ja.toNatClampNeg := ex_8
                have hdg : 0 ≤ x_8.toInt ∧ x_8.toInt < 4 := by have q := (show P6 (z.1 22) (z.2.2.1 23) (z.2.2.1 24) from hI.1.1).2.2 ja.toNatClampNeg (by rw [z_clamp hja.1]; omega); rw [ex_8]; omega
                refine lv_istore (lv' := [(9, .int x_8), (8, .int ja), (6, .long bt), (4, .long tp), (3, .int fu), (2, .int fl), (0, .ref (q 0)), (1, .int pe)]) hx hb dX7_givenOf_161 hl (by decide) rfl (fun ls hl => ?_)
                refine lv_aload_n hx hb dX7_givenOf_163 rfl (lv_at hl 6 rfl) ?_
                refine va_get (D := (dC, dI)) (ci := 7) (v := .ref (q 23)) (C := RX7) (T := TX7) (N := 42) hx hb htb inw7 hown hK.1 hP 0 rfl rfl 23 (by decide) (htb _ wmt3_190) (fun _ h9 => h9) rfl dX7_givenOf_164 ?_
                refine lv_iload hx hb dX7_givenOf_167 (lv_at hl 1 rfl) ?_
                refine va_iald (D := (dC, dI)) hx hb hK.1 hP 14 0 rfl rfl (z_in (by omega)) dX7_givenOf_169 ?_
                refine lv_topi (fun x_9 ex_9 => ?_)
                replace ex_9 : x_9 = (z.2.2.1 23) ja.toNatClampNeg := ex_9
                refine lv_iload_n hx hb dX7_givenOf_170 rfl (lv_at hl 7 rfl) ?_
                refine lv_icmp_ne (tgt := 304) hx hb dX7_givenOf_171 (by decide) (fun c_10 => ?_) (fun c_10 => ?_)
                · skip
                  have hc_10 := zb_ne rfl rfl c_10
                  obtain ⟨x_11, ex_11⟩ : ∃ y : Int32, y = ja + 1 := ⟨_, rfl⟩
                  have hx_11 : x_11.toInt = ja.toInt + 1 := z_add ex_11 rfl (show (1 : Int32).toInt = 1 by decide) (by omega)
                  refine lv_iinc (v := x_11) (lv' := [(8, .int x_11), (9, .int x_8), (6, .long bt), (4, .long tp), (3, .int fu), (2, .int fl), (0, .ref (q 0)), (1, .int pe)]) hx hb dX7_givenOf_304 hl (k := 1) rfl (by rw [ex_11]; rfl) (by decide) rfl (fun ls hl => ?_)
                  refine lv_goto (tgt := 145) hx hb dX7_givenOf_307 (by decide) ?_
                  exact ih145 ((120 - x_11.toInt).toNat) (by omega) fu tp bt x_11 ja0 jb0 nn0 ct2 ⟨(show 0 ≤ x_11.toInt ∧ x_11.toInt ≤ 120 by omega), (show 0 ≤ tp.toInt ∧ 1 ≤ bt.toInt by omega), (fun q9 => by omega)⟩ rfl H locs ls hP hS (lv_sub hl [0, 2, 3, 4, 5, 6, 7] rfl)
                · skip
                  have hc_10 := zb_eq rfl rfl c_10
                  have hby2 := hc_10
                  refine lv_aload_n hx hb dX7_givenOf_174 rfl (lv_at hl 6 rfl) ?_
                  refine lv_iload hx hb dX7_givenOf_175 (lv_at hl 1 rfl) ?_
                  refine zcA_i (w := (zM k q (sA (sI (sJ (sJ (sA (sA (sA (sI (sI (sI (sI (sA (sA (sA (sA (sA (sA (sA z 4 co4) 5 co5) 6 co6) 7 co7) 8 co8) 9 co9) 10 co10) 12 co12) 13 co13) 14 co14) 15 co15) 16 co16) 17 co17) 18 co18) 0 ja0) 1 jb0) 33 nn0) 34 ct2))) (va_runV (As := [.int ja]) (rest := []) ⟨hx, hb, hml, hown, htb⟩ (c_X7_isKnown l dC dI k q (sA (sI (sJ (sJ (sA (sA (sA (sI (sI (sI (sI (sA (sA (sA (sA (sA (sA (sA z 4 co4) 5 co5) 6 co6) 7 co7) 8 co8) 9 co9) 10 co10) 12 co12) 13 co13) 14 co14) 15 co15) 16 co16) 17 co17) 18 co18) 0 ja0) 1 jb0) 33 nn0) 34 ct2) ja _ (show 0 ≤ ja.toInt ∧ ja.toInt < 120 by omega)) (cwV 1 htb (gzV wmt4_190 wmt4_192 wmp3_6 wmt1_8 wmt4_193) rfl rfl rfl (by decide +kernel) ⟨Nat.le_of_ble_eq_true rfl, Nat.le_of_ble_eq_true rfl⟩) (zpA_V (ci := 7) (q0 := 0) hK hP (hDa _) rfl rfl) rfl rfl hl.1 rfl (lv_room (Nat.le_of_ble_eq_true rfl)) dX7_givenOf_177 ⟨Nat.le_of_ble_eq_true rfl, Nat.le_of_ble_eq_true rfl⟩) (hDa _) hS hA (fun r_12 u_13 H locs w_14 hP _ hS => ?_)
                  rcases w_14 with ⟨e_16, h_15⟩ | ⟨e_18, h_17⟩
                  · skip
                    replace e_16 : r_12 = 1 := e_16
                    subst e_16
                    replace h_15 : kn (sA (sI (sJ (sJ (sA (sA (sA (sI (sI (sI (sI (sA (sA (sA (sA (sA (sA (sA z 4 co4) 5 co5) 6 co6) 7 co7) 8 co8) 9 co9) 10 co10) 12 co12) 13 co13) 14 co14) 15 co15) 16 co16) 17 co17) 18 co18) 0 ja0) 1 jb0) 33 nn0) 34 ct2) ja.toNatClampNeg := h_15
                    obtain ⟨hgr, hgf⟩ := hgi0 ja.toNatClampNeg (by rw [z_clamp hja.1]; omega) (by rw [← ex_9]; exact Int32.toInt_inj.mp hby2) h_15 (Or.inl (by rw [← ex_8]; omega))
                    rw [← ex_8] at hgr hgf
                    have hmsg := MD_at (show MD (FR (z.2.2.1 2) (z.2.2.1 3)) co4 co5 co6 co7 co8 co9 co10 from hI.2.2.2.2.2) (d := x_8) (by omega)
                    obtain ⟨hgw, hgs, -⟩ := hmsg.2.2.2.2.2 hgr
                    have hgs2 := hgs hgf
                    refine lv_if_eq (tgt := 304) hx hb dX7_givenOf_180 (by decide) (fun c_19 => ?_) (fun c_19 => ?_)
                    · skip
                      exact absurd c_19 (by decide)
                    · skip
                      refine lv_aload_n hx hb dX7_givenOf_183 rfl (lv_at hl 6 rfl) ?_
                      refine va_get (D := (dC, dI)) (ci := 7) (v := .ref (q 34)) (C := RX7) (T := TX7) (N := 42) hx hb htb inw7 hown hK.1 hP 0 rfl rfl 34 (by decide) (htb _ wmt3_201) (fun _ h9 => h9) rfl dX7_givenOf_184 ?_
                      refine lv_iload hx hb dX7_givenOf_187 (lv_at hl 0 rfl) ?_
                      refine lv_dup2_11 hx hb dX7_givenOf_189 rfl rfl ?_
                      refine va_iald (D := (dC, dI)) hx hb hK.1 hP 19 0 rfl rfl (z_in (by omega)) dX7_givenOf_190 ?_
                      refine lv_topi (fun x_20 ex_20 => ?_)
                      replace ex_20 : x_20 = ct2 x_8.toNatClampNeg := ex_20
                      refine lv_iconst (v := 1) hx hb dX7_givenOf_191 (by decide) ?_
                      refine lv_iadd hx hb dX7_givenOf_192 ?_
                      refine lv_topi (fun x_21 ex_21 => ?_)
                      refine va_iast (D := (dC, dI)) hx hb hK.1 hP (hDa _) hS 19 0 rfl rfl (z_in (by omega)) dX7_givenOf_193 (fun H locs hP _ hS => ?_)
                      obtain ⟨f_22, ef_22⟩ : ∃ x : Nat → Int32, x = upd ct2 x_8.toNatClampNeg x_21 := ⟨_, rfl⟩
                      have hP : va_P (dC, dI) vwCl (zM k q (sA (sI (sJ (sJ (sA (sA (sA (sI (sI (sI (sI (sA (sA (sA (sA (sA (sA (sA z 4 co4) 5 co5) 6 co6) 7 co7) 8 co8) 9 co9) 10 co10) 12 co12) 13 co13) 14 co14) 15 co15) 16 co16) 17 co17) 18 co18) 0 ja0) 1 jb0) 33 nn0) 34 f_22)) H := by rw [ef_22]; exact hP
                      refine lv_aload_n hx hb dX7_givenOf_194 rfl (lv_at hl 6 rfl) ?_
                      refine va_get (D := (dC, dI)) (ci := 7) (v := .ref (q 34)) (C := RX7) (T := TX7) (N := 42) hx hb htb inw7 hown hK.1 hP 0 rfl rfl 34 (by decide) (htb _ wmt3_201) (fun _ h9 => h9) rfl dX7_givenOf_195 ?_
                      refine lv_iload hx hb dX7_givenOf_198 (lv_at hl 0 rfl) ?_
                      refine va_iald (D := (dC, dI)) hx hb hK.1 hP 19 0 rfl rfl (z_in (by omega)) dX7_givenOf_200 ?_
                      refine lv_topi (fun x_23 ex_23 => ?_)
                      replace ex_23 : x_23 = f_22 x_8.toNatClampNeg := ex_23
                      refine lv_iconst (v := 3) hx hb dX7_givenOf_201 (by decide) ?_
                      refine lv_icmp_ge (tgt := 304) hx hb dX7_givenOf_202 (by decide) (fun c_24 => ?_) (fun c_24 => ?_)
                      · skip
                        have hc_24 := zb_le (show (3 : Int32).toInt = 3 by decide) rfl c_24
                        obtain ⟨x_25, ex_25⟩ : ∃ y : Int32, y = ja + 1 := ⟨_, rfl⟩
                        have hx_25 : x_25.toInt = ja.toInt + 1 := z_add ex_25 rfl (show (1 : Int32).toInt = 1 by decide) (by omega)
                        refine lv_iinc (v := x_25) (lv' := [(8, .int x_25), (9, .int x_8), (6, .long bt), (4, .long tp), (3, .int fu), (2, .int fl), (0, .ref (q 0)), (1, .int pe)]) hx hb dX7_givenOf_304 hl (k := 1) rfl (by rw [ex_25]; rfl) (by decide) rfl (fun ls hl => ?_)
                        refine lv_goto (tgt := 145) hx hb dX7_givenOf_307 (by decide) ?_
                        exact ih145 ((120 - x_25.toInt).toNat) (by omega) fu tp bt x_25 ja0 jb0 nn0 f_22 ⟨(show 0 ≤ x_25.toInt ∧ x_25.toInt ≤ 120 by omega), (show 0 ≤ tp.toInt ∧ 1 ≤ bt.toInt by omega), (fun q9 => by omega)⟩ rfl H locs ls hP hS (lv_sub hl [0, 2, 3, 4, 5, 6, 7] rfl)
                      · skip
                        have hc_24 := zb_nle (show (3 : Int32).toInt = 3 by decide) rfl c_24
                        refine lv_aload_n hx hb dX7_givenOf_205 rfl (lv_at hl 6 rfl) ?_
                        refine lv_iload hx hb dX7_givenOf_206 (lv_at hl 0 rfl) ?_
                        refine lv_aload_n hx hb dX7_givenOf_208 rfl (lv_at hl 6 rfl) ?_
                        refine va_get (D := (dC, dI)) (ci := 7) (v := .ref (q 25)) (C := RX7) (T := TX7) (N := 42) hx hb htb inw7 hown hK.1 hP 0 rfl rfl 25 (by decide) (htb _ wmt3_192) (fun _ h9 => h9) rfl dX7_givenOf_209 ?_
                        refine lv_iload hx hb dX7_givenOf_212 (lv_at hl 1 rfl) ?_
                        refine va_iald (D := (dC, dI)) hx hb hK.1 hP 16 0 rfl rfl (z_in (by omega)) dX7_givenOf_214 ?_
                        refine lv_topi (fun x_26 ex_26 => ?_)
                        replace ex_26 : x_26 = (z.2.2.1 25) ja.toNatClampNeg := ex_26
                        refine zcA_i (w := (zM k q (sA (sI (sJ (sJ (sA (sA (sA (sI (sI (sI (sI (sA (sA (sA (sA (sA (sA (sA z 4 co4) 5 co5) 6 co6) 7 co7) 8 co8) 9 co9) 10 co10) 12 co12) 13 co13) 14 co14) 15 co15) 16 co16) 17 co17) 18 co18) 0 ja0) 1 jb0) 33 nn0) 34 f_22))) (va_runV (As := [.int x_8, .int x_26]) (rest := []) ⟨hx, hb, hml, hown, htb⟩ (c_X7_gives l dC dI k q (sA (sI (sJ (sJ (sA (sA (sA (sI (sI (sI (sI (sA (sA (sA (sA (sA (sA (sA z 4 co4) 5 co5) 6 co6) 7 co7) 8 co8) 9 co9) 10 co10) 12 co12) 13 co13) 14 co14) 15 co15) 16 co16) 17 co17) 18 co18) 0 ja0) 1 jb0) 33 nn0) 34 f_22) x_8 x_26 _ hI (by omega) hmsg) (cwV 2 htb (gzV wmt5_32 wmt5_34 wmp3_14 wmt1_8 wmt5_35) rfl rfl rfl (by decide +kernel) ⟨Nat.le_of_ble_eq_true rfl, Nat.le_of_ble_eq_true rfl⟩) (zpA_V (ci := 7) (q0 := 0) hK hP (hDa _) rfl rfl) rfl rfl hl.1 rfl (lv_room (Nat.le_of_ble_eq_true rfl)) dX7_givenOf_215 ⟨Nat.le_of_ble_eq_true rfl, Nat.le_of_ble_eq_true rfl⟩) (hDa _) hS hA (fun r_27 u_28 H locs w_29 hP _ hS => ?_)
                        obtain ⟨oa_30, ob_31⟩ := u_28
                        have hP : va_P (dC, dI) vwCl (zM k q (sJ (sJ (sA (sI (sA (sA (sA (sI (sI (sI (sI (sA (sA (sA (sA (sA (sA (sA z 4 co4) 5 co5) 6 co6) 7 co7) 8 co8) 9 co9) 10 co10) 12 co12) 13 co13) 14 co14) 15 co15) 16 co16) 17 co17) 18 co18) 33 nn0) 34 f_22) 0 oa_30) 1 ob_31)) H := hP
                        rcases w_29 with ⟨e_37, h_32, h_33, h_34, h_35, h_36⟩ | ⟨e_41, h_38, h_39, h_40⟩
                        · skip
                          replace e_37 : r_27 = 1 := e_37
                          subst e_37
                          replace h_32 : 1 ≤ ob_31.toInt ∧ ob_31.toInt ≤ 731520 := h_32
                          replace h_33 : -731520 ≤ oa_30.toInt ∧ oa_30.toInt ≤ 731520 := h_33
                          replace h_34 : (co7 x_8.toNatClampNeg).toInt + (co8 x_8.toNatClampNeg).toInt + (co9 x_8.toNatClampNeg).toInt + (co10 x_8.toNatClampNeg).toInt ≤ (co6 x_8.toNatClampNeg).toInt → 0 ≤ oa_30.toInt ∧ oa_30.toInt ≤ 11520 ∧ ob_31.toInt ≤ 11520 := h_34
                          replace h_35 : 0 < (if x_26.toInt = 1 then yI (co7 x_8.toNatClampNeg) (co8 x_8.toNatClampNeg) (co9 x_8.toNatClampNeg) (co10 x_8.toNatClampNeg) ((z.1 11)) 1 else 24 * (co6 x_8.toNatClampNeg).toInt - yI (co7 x_8.toNatClampNeg) (co8 x_8.toNatClampNeg) (co9 x_8.toNatClampNeg) (co10 x_8.toNatClampNeg) ((z.1 11)) 1) → 0 < (if x_26.toInt = 1 then yI (co7 x_8.toNatClampNeg) (co8 x_8.toNatClampNeg) (co9 x_8.toNatClampNeg) (co10 x_8.toNatClampNeg) ((z.1 11)) 0 else 24 * (co6 x_8.toNatClampNeg).toInt - yI (co7 x_8.toNatClampNeg) (co8 x_8.toNatClampNeg) (co9 x_8.toNatClampNeg) (co10 x_8.toNatClampNeg) ((z.1 11)) 0) → 1 ≤ oa_30.toInt := h_35
                          replace h_36 : Hd ((co7 x_8.toNatClampNeg).toInt + (co8 x_8.toNatClampNeg).toInt + (co9 x_8.toNatClampNeg).toInt + (co10 x_8.toNatClampNeg).toInt ≤ (co6 x_8.toNatClampNeg).toInt → (oa_30.toInt = frT (if x_26.toInt = 1 then yI (co7 x_8.toNatClampNeg) (co8 x_8.toNatClampNeg) (co9 x_8.toNatClampNeg) (co10 x_8.toNatClampNeg) ((z.1 11)) 1 else 24 * (co6 x_8.toNatClampNeg).toInt - yI (co7 x_8.toNatClampNeg) (co8 x_8.toNatClampNeg) (co9 x_8.toNatClampNeg) (co10 x_8.toNatClampNeg) ((z.1 11)) 1) (if x_26.toInt = 1 then yI (co7 x_8.toNatClampNeg) (co8 x_8.toNatClampNeg) (co9 x_8.toNatClampNeg) (co10 x_8.toNatClampNeg) ((z.1 11)) 0 else 24 * (co6 x_8.toNatClampNeg).toInt - yI (co7 x_8.toNatClampNeg) (co8 x_8.toNatClampNeg) (co9 x_8.toNatClampNeg) (co10 x_8.toNatClampNeg) ((z.1 11)) 0) 0 ∧ ob_31.toInt = frT (if x_26.toInt = 1 then yI (co7 x_8.toNatClampNeg) (co8 x_8.toNatClampNeg) (co9 x_8.toNatClampNeg) (co10 x_8.toNatClampNeg) ((z.1 11)) 1 else 24 * (co6 x_8.toNatClampNeg).toInt - yI (co7 x_8.toNatClampNeg) (co8 x_8.toNatClampNeg) (co9 x_8.toNatClampNeg) (co10 x_8.toNatClampNeg) ((z.1 11)) 1) (if x_26.toInt = 1 then yI (co7 x_8.toNatClampNeg) (co8 x_8.toNatClampNeg) (co9 x_8.toNatClampNeg) (co10 x_8.toNatClampNeg) ((z.1 11)) 0 else 24 * (co6 x_8.toNatClampNeg).toInt - yI (co7 x_8.toNatClampNeg) (co8 x_8.toNatClampNeg) (co9 x_8.toNatClampNeg) (co10 x_8.toNatClampNeg) ((z.1 11)) 0) 1) ∧ ¬ (if x_26.toInt = 1 then yI (co7 x_8.toNatClampNeg) (co8 x_8.toNatClampNeg) (co9 x_8.toNatClampNeg) (co10 x_8.toNatClampNeg) ((z.1 11)) 0 else 24 * (co6 x_8.toNatClampNeg).toInt - yI (co7 x_8.toNatClampNeg) (co8 x_8.toNatClampNeg) (co9 x_8.toNatClampNeg) (co10 x_8.toNatClampNeg) ((z.1 11)) 0) = 0) := h_36
                          refine lv_istore (lv' := [(10, .int 1), (9, .int x_8), (8, .int ja), (6, .long bt), (4, .long tp), (3, .int fu), (2, .int fl), (0, .ref (q 0)), (1, .int pe)]) hx hb dX7_givenOf_218 hl (by decide) rfl (fun ls hl => ?_)
                          refine lv_aload_n hx hb dX7_givenOf_220 rfl (lv_at hl 7 rfl) ?_
                          refine lv_aload_n hx hb dX7_givenOf_221 rfl (lv_at hl 7 rfl) ?_
                          refine va_get (D := (dC, dI)) (ci := 7) (v := .int nn0) (C := RX7) (T := TX7) (N := 42) hx hb htb inw7 hown hK.1 hP 0 rfl rfl 33 (by decide) (htb _ wmt3_200) (fun _ h9 => h9) rfl dX7_givenOf_222 ?_
                          refine lv_if_ne (tgt := 233) hx hb dX7_givenOf_225 (by decide) (fun c_42 => ?_) (fun c_42 => ?_)
                          · skip
                            have hc_42 := zb_ne rfl (show (0 : Int32).toInt = 0 by decide) c_42
                            refine lv_iconst (v := 1) hx hb dX7_givenOf_233 (by decide) ?_
                            refine lv_goto (tgt := 238) hx hb dX7_givenOf_234 (by decide) ?_
                            refine va_put (D := (dC, dI)) (ci := 7) (v := .int 1) (ty := .boolean) (C := RX7) (T := TX7) (N := 42) hx hb htb inw7 tyX7 tyX7_ok nmX7 hown hK.1 hP (hDa _) hS 0 rfl rfl 33 (by decide) (htb _ wmt3_200) (fun _ h9 => h9) rfl (by decide +kernel) rfl rfl (Nat.le_of_ble_eq_true rfl) dX7_givenOf_238 (fun H locs hP _ hS => ?_)
                            have hP : va_P (dC, dI) vwCl (zM k q (sI (sJ (sJ (sA (sA (sA (sA (sI (sI (sI (sI (sA (sA (sA (sA (sA (sA (sA z 4 co4) 5 co5) 6 co6) 7 co7) 8 co8) 9 co9) 10 co10) 12 co12) 13 co13) 14 co14) 15 co15) 16 co16) 17 co17) 18 co18) 34 f_22) 0 oa_30) 1 ob_31) 33 1)) H := hP
                            refine lv_iload hx hb dX7_givenOf_241 (lv_at hl 0 rfl) ?_
                            refine lv_if_eq (tgt := 304) hx hb dX7_givenOf_243 (by decide) (fun c_43 => ?_) (fun c_43 => ?_)
                            · skip
                              exact absurd c_43 (by decide)
                            · skip
                              refine lv_iload_n hx hb dX7_givenOf_246 rfl (lv_at hl 5 rfl) ?_
                              refine lv_if_ne (tgt := 304) hx hb dX7_givenOf_247 (by decide) (fun c_44 => ?_) (fun c_44 => ?_)
                              · skip
                                have hc_44 := zb_ne rfl (show (0 : Int32).toInt = 0 by decide) c_44
                                obtain ⟨x_45, ex_45⟩ : ∃ y : Int32, y = ja + 1 := ⟨_, rfl⟩
                                have hx_45 : x_45.toInt = ja.toInt + 1 := z_add ex_45 rfl (show (1 : Int32).toInt = 1 by decide) (by omega)
                                refine lv_iinc (v := x_45) (lv' := [(8, .int x_45), (10, .int 1), (9, .int x_8), (6, .long bt), (4, .long tp), (3, .int fu), (2, .int fl), (0, .ref (q 0)), (1, .int pe)]) hx hb dX7_givenOf_304 hl (k := 2) rfl (by rw [ex_45]; rfl) (by decide) rfl (fun ls hl => ?_)
                                refine lv_goto (tgt := 145) hx hb dX7_givenOf_307 (by decide) ?_
                                exact ih145 ((120 - x_45.toInt).toNat) (by omega) fu tp bt x_45 oa_30 ob_31 1 f_22 ⟨(show 0 ≤ x_45.toInt ∧ x_45.toInt ≤ 120 by omega), (show 0 ≤ tp.toInt ∧ 1 ≤ bt.toInt by omega), (fun q9 => by omega)⟩ rfl H locs ls hP hS (lv_sub hl [0, 3, 4, 5, 6, 7, 8] rfl)
                              · skip
                                have hc_44 := zb_eq rfl (show (0 : Int32).toInt = 0 by decide) c_44
                                refine lv_aload_n hx hb dX7_givenOf_250 rfl (lv_at hl 7 rfl) ?_
                                refine lv_lload hx hb dX7_givenOf_251 (lv_at hl 4 rfl) ?_
                                refine lv_aload_n hx hb dX7_givenOf_253 rfl (lv_at hl 7 rfl) ?_
                                refine va_get (D := (dC, dI)) (ci := 7) (v := .long oa_30) (C := RX7) (T := TX7) (N := 42) hx hb htb inw7 hown hK.1 hP 0 rfl rfl 0 (by decide) (htb _ wmt3_167) (fun _ h9 => h9) rfl dX7_givenOf_254 ?_
                                refine lv_lmul hx hb dX7_givenOf_257 ?_
                                refine lv_topl (fun x_46 ex_46 => ?_)
                                have qx_46 := z_mulb (a := tp.toInt) (b := oa_30.toInt) (A := 1000000000) (B := 11520) (by omega) (by omega)
                                have hx_46 := zl_mul ex_46 rfl rfl (by omega)
                                refine lv_lload hx hb dX7_givenOf_258 (lv_at hl 3 rfl) ?_
                                refine lv_aload_n hx hb dX7_givenOf_260 rfl (lv_at hl 7 rfl) ?_
                                refine va_get (D := (dC, dI)) (ci := 7) (v := .long ob_31) (C := RX7) (T := TX7) (N := 42) hx hb htb inw7 hown hK.1 hP 0 rfl rfl 1 (by decide) (htb _ wmt3_168) (fun _ h9 => h9) rfl dX7_givenOf_261 ?_
                                refine lv_lmul hx hb dX7_givenOf_264 ?_
                                refine lv_topl (fun x_47 ex_47 => ?_)
                                have qx_47 := z_mulb (a := bt.toInt) (b := ob_31.toInt) (A := 1000000000) (B := 11520) (by omega) (by omega)
                                have px_47 : 1 * 1 ≤ bt.toInt * ob_31.toInt := Int.mul_le_mul (by omega) (by omega) (by decide) (by omega)
                                have hx_47 := zl_mul ex_47 rfl rfl (by omega)
                                refine zcA_v (w := (zM k q (sI (sJ (sJ (sA (sA (sA (sA (sI (sI (sI (sI (sA (sA (sA (sA (sA (sA (sA z 4 co4) 5 co5) 6 co6) 7 co7) 8 co8) 9 co9) 10 co10) 12 co12) 13 co13) 14 co14) 15 co15) 16 co16) 17 co17) 18 co18) 34 f_22) 0 oa_30) 1 ob_31) 33 1))) (va_runV (As := [.long x_46, .long x_47]) (rest := []) ⟨hx, hb, hml, hown, htb⟩ (c_X7_is l dC dI k q (sI (sJ (sJ (sA (sA (sA (sA (sI (sI (sI (sI (sA (sA (sA (sA (sA (sA (sA z 4 co4) 5 co5) 6 co6) 7 co7) 8 co8) 9 co9) 10 co10) 12 co12) 13 co13) 14 co14) 15 co15) 16 co16) 17 co17) 18 co18) 34 f_22) 0 oa_30) 1 ob_31) 33 1) x_46 x_47 _ (show (-4611686018427387904 < x_46.toInt ∧ x_46.toInt < 4611686018427387904) by omega) (show (-4611686018427387904 < x_47.toInt ∧ x_47.toInt < 4611686018427387904) by omega) (show x_47.toInt ≠ 0 by omega)) (cwV 2 htb (gzV wmt4_129 wmt4_131 wmp3_0 wmt1_8 wmt4_132) rfl rfl rfl (by decide +kernel) ⟨Nat.le_of_ble_eq_true rfl, Nat.le_of_ble_eq_true rfl⟩) (zpA_V (ci := 7) (q0 := 0) hK hP (hDa _) rfl rfl) rfl rfl hl.1 rfl (lv_room (Nat.le_of_ble_eq_true rfl)) dX7_givenOf_265 ⟨Nat.le_of_ble_eq_true rfl, Nat.le_of_ble_eq_true rfl⟩) (hDa _) hS hA (fun u_49 H locs w_50 hP _ hS => ?_)
                                obtain ⟨oa_51, ob_52⟩ := u_49
                                have hP : va_P (dC, dI) vwCl (zM k q (sJ (sJ (sI (sA (sA (sA (sA (sI (sI (sI (sI (sA (sA (sA (sA (sA (sA (sA z 4 co4) 5 co5) 6 co6) 7 co7) 8 co8) 9 co9) 10 co10) 12 co12) 13 co13) 14 co14) 15 co15) 16 co16) 17 co17) 18 co18) 34 f_22) 33 1) 0 oa_51) 1 ob_52)) H := hP
                                obtain ⟨h_53, h_54, h_55, h_56, h_57, h_58⟩ := w_50
                                replace h_53 : 1 ≤ ob_52.toInt ∧ ob_52.toInt ≤ (x_47.toInt.natAbs : Int) := h_53
                                replace h_54 : (oa_51.toInt.natAbs : Int) ≤ (x_46.toInt.natAbs : Int) := h_54
                                replace h_55 : (0 ≤ x_46.toInt → 0 < x_47.toInt → 0 ≤ oa_51.toInt) ∧ (0 < x_46.toInt → 0 < x_47.toInt → 1 ≤ oa_51.toInt) := h_55
                                replace h_56 : ob_52.toInt = ((x_47.toInt.natAbs / Nat.gcd x_46.toInt.natAbs x_47.toInt.natAbs : Nat) : Int) := h_56
                                replace h_57 : oa_51.toInt = x_46.toInt.tdiv (if x_47.toInt < 0 then -(Nat.gcd x_46.toInt.natAbs x_47.toInt.natAbs : Int) else (Nat.gcd x_46.toInt.natAbs x_47.toInt.natAbs : Int)) := h_57
                                replace h_58 : Hd (0 ≤ x_46.toInt → 0 < x_47.toInt → oa_51.toInt = frT x_46.toInt x_47.toInt 0 ∧ ob_52.toInt = frT x_46.toInt x_47.toInt 1) := h_58
                                have his0 := h_53
                                have his1 := h_54
                                have his2 := h_55
                                have his3 := h_56
                                have his4 := h_57
                                have his5 := h_58
                                refine lv_aload_n hx hb dX7_givenOf_268 rfl (lv_at hl 7 rfl) ?_
                                refine va_get (D := (dC, dI)) (ci := 7) (v := .long oa_51) (C := RX7) (T := TX7) (N := 42) hx hb htb inw7 hown hK.1 hP 0 rfl rfl 0 (by decide) (htb _ wmt3_167) (fun _ h9 => h9) rfl dX7_givenOf_269 ?_
                                refine lv_lstore (lv' := [(4, .long oa_51), (10, .int 1), (9, .int x_8), (8, .int ja), (6, .long bt), (3, .int fu), (2, .int fl), (0, .ref (q 0)), (1, .int pe)]) hx hb dX7_givenOf_272 hl (by decide) rfl (fun ls hl => ?_)
                                refine lv_aload_n hx hb dX7_givenOf_274 rfl (lv_at hl 7 rfl) ?_
                                refine va_get (D := (dC, dI)) (ci := 7) (v := .long ob_52) (C := RX7) (T := TX7) (N := 42) hx hb htb inw7 hown hK.1 hP 0 rfl rfl 1 (by decide) (htb _ wmt3_168) (fun _ h9 => h9) rfl dX7_givenOf_275 ?_
                                refine lv_lstore (lv' := [(6, .long ob_52), (4, .long oa_51), (10, .int 1), (9, .int x_8), (8, .int ja), (3, .int fu), (2, .int fl), (0, .ref (q 0)), (1, .int pe)]) hx hb dX7_givenOf_278 hl (by decide) rfl (fun ls hl => ?_)
                                refine lv_lload hx hb dX7_givenOf_280 (lv_at hl 1 rfl) ?_
                                refine lv_ldc2 (v := 1000000000) hx hb hown (htb _ wmt5_48) dX7_givenOf_282 ?_
                                refine z_lcmp hx hb dX7_givenOf_285 ?_
                                refine lv_if_gt (tgt := 298) hx hb dX7_givenOf_286 (by decide) (fun c_60 => ?_) (fun c_60 => ?_)
                                · skip
                                  have hc_60 := zl_gt rfl (show (1000000000 : Int64).toInt = 1000000000 by decide) c_60
                                  refine lv_iconst (v := 1) hx hb dX7_givenOf_298 (by decide) ?_
                                  refine lv_goto (tgt := 303) hx hb dX7_givenOf_299 (by decide) ?_
                                  refine lv_istore_n (lv' := [(3, .int 1), (6, .long ob_52), (4, .long oa_51), (10, .int 1), (9, .int x_8), (8, .int ja), (2, .int fl), (0, .ref (q 0)), (1, .int pe)]) hx hb dX7_givenOf_303 rfl hl (by decide) rfl (fun ls hl => ?_)
                                  obtain ⟨x_61, ex_61⟩ : ∃ y : Int32, y = ja + 1 := ⟨_, rfl⟩
                                  have hx_61 : x_61.toInt = ja.toInt + 1 := z_add ex_61 rfl (show (1 : Int32).toInt = 1 by decide) (by omega)
                                  refine lv_iinc (v := x_61) (lv' := [(8, .int x_61), (3, .int 1), (6, .long ob_52), (4, .long oa_51), (10, .int 1), (9, .int x_8), (2, .int fl), (0, .ref (q 0)), (1, .int pe)]) hx hb dX7_givenOf_304 hl (k := 5) rfl (by rw [ex_61]; rfl) (by decide) rfl (fun ls hl => ?_)
                                  refine lv_goto (tgt := 145) hx hb dX7_givenOf_307 (by decide) ?_
                                  exact ih145 ((120 - x_61.toInt).toNat) (by omega) 1 oa_51 ob_52 x_61 oa_51 ob_52 1 f_22 ⟨(show 0 ≤ x_61.toInt ∧ x_61.toInt ≤ 120 by omega), (show 0 ≤ oa_51.toInt ∧ 1 ≤ ob_52.toInt by omega), (fun q9 => absurd q9 (by decide))⟩ rfl H locs ls hP hS (lv_sub hl [0, 2, 3, 1, 6, 7, 8] rfl)
                                · skip
                                  have hc_60 := zl_ngt rfl (show (1000000000 : Int64).toInt = 1000000000 by decide) c_60
                                  refine lv_lload hx hb dX7_givenOf_289 (lv_at hl 0 rfl) ?_
                                  refine lv_ldc2 (v := 1000000000) hx hb hown (htb _ wmt5_48) dX7_givenOf_291 ?_
                                  refine z_lcmp hx hb dX7_givenOf_294 ?_
                                  refine lv_if_le (tgt := 302) hx hb dX7_givenOf_295 (by decide) (fun c_62 => ?_) (fun c_62 => ?_)
                                  · skip
                                    have hc_62 := zl_le rfl (show (1000000000 : Int64).toInt = 1000000000 by decide) c_62
                                    refine lv_iconst (v := 0) hx hb dX7_givenOf_302 (by decide) ?_
                                    refine lv_istore_n (lv' := [(3, .int 0), (6, .long ob_52), (4, .long oa_51), (10, .int 1), (9, .int x_8), (8, .int ja), (2, .int fl), (0, .ref (q 0)), (1, .int pe)]) hx hb dX7_givenOf_303 rfl hl (by decide) rfl (fun ls hl => ?_)
                                    obtain ⟨x_63, ex_63⟩ : ∃ y : Int32, y = ja + 1 := ⟨_, rfl⟩
                                    have hx_63 : x_63.toInt = ja.toInt + 1 := z_add ex_63 rfl (show (1 : Int32).toInt = 1 by decide) (by omega)
                                    refine lv_iinc (v := x_63) (lv' := [(8, .int x_63), (3, .int 0), (6, .long ob_52), (4, .long oa_51), (10, .int 1), (9, .int x_8), (2, .int fl), (0, .ref (q 0)), (1, .int pe)]) hx hb dX7_givenOf_304 hl (k := 5) rfl (by rw [ex_63]; rfl) (by decide) rfl (fun ls hl => ?_)
                                    refine lv_goto (tgt := 145) hx hb dX7_givenOf_307 (by decide) ?_
                                    exact ih145 ((120 - x_63.toInt).toNat) (by omega) 0 oa_51 ob_52 x_63 oa_51 ob_52 1 f_22 ⟨(show 0 ≤ x_63.toInt ∧ x_63.toInt ≤ 120 by omega), (show 0 ≤ oa_51.toInt ∧ 1 ≤ ob_52.toInt by omega), (fun q9 => by omega)⟩ rfl H locs ls hP hS (lv_sub hl [0, 2, 3, 1, 6, 7, 8] rfl)
                                  · skip
                                    have hc_62 := zl_nle rfl (show (1000000000 : Int64).toInt = 1000000000 by decide) c_62
                                    refine lv_iconst (v := 1) hx hb dX7_givenOf_298 (by decide) ?_
                                    refine lv_goto (tgt := 303) hx hb dX7_givenOf_299 (by decide) ?_
                                    refine lv_istore_n (lv' := [(3, .int 1), (6, .long ob_52), (4, .long oa_51), (10, .int 1), (9, .int x_8), (8, .int ja), (2, .int fl), (0, .ref (q 0)), (1, .int pe)]) hx hb dX7_givenOf_303 rfl hl (by decide) rfl (fun ls hl => ?_)
                                    obtain ⟨x_64, ex_64⟩ : ∃ y : Int32, y = ja + 1 := ⟨_, rfl⟩
                                    have hx_64 : x_64.toInt = ja.toInt + 1 := z_add ex_64 rfl (show (1 : Int32).toInt = 1 by decide) (by omega)
                                    refine lv_iinc (v := x_64) (lv' := [(8, .int x_64), (3, .int 1), (6, .long ob_52), (4, .long oa_51), (10, .int 1), (9, .int x_8), (2, .int fl), (0, .ref (q 0)), (1, .int pe)]) hx hb dX7_givenOf_304 hl (k := 5) rfl (by rw [ex_64]; rfl) (by decide) rfl (fun ls hl => ?_)
                                    refine lv_goto (tgt := 145) hx hb dX7_givenOf_307 (by decide) ?_
                                    exact ih145 ((120 - x_64.toInt).toNat) (by omega) 1 oa_51 ob_52 x_64 oa_51 ob_52 1 f_22 ⟨(show 0 ≤ x_64.toInt ∧ x_64.toInt ≤ 120 by omega), (show 0 ≤ oa_51.toInt ∧ 1 ≤ ob_52.toInt by omega), (fun q9 => absurd q9 (by decide))⟩ rfl H locs ls hP hS (lv_sub hl [0, 2, 3, 1, 6, 7, 8] rfl)
                          · skip
                            have hc_42 := zb_eq rfl (show (0 : Int32).toInt = 0 by decide) c_42
                            refine lv_iload hx hb dX7_givenOf_228 (lv_at hl 0 rfl) ?_
                            refine lv_if_ne (tgt := 237) hx hb dX7_givenOf_230 (by decide) (fun c_65 => ?_) (fun c_65 => ?_)
                            · skip
                              refine lv_iconst (v := 0) hx hb dX7_givenOf_237 (by decide) ?_
                              refine va_put (D := (dC, dI)) (ci := 7) (v := .int 0) (ty := .boolean) (C := RX7) (T := TX7) (N := 42) hx hb htb inw7 tyX7 tyX7_ok nmX7 hown hK.1 hP (hDa _) hS 0 rfl rfl 33 (by decide) (htb _ wmt3_200) (fun _ h9 => h9) rfl (by decide +kernel) rfl rfl (Nat.le_of_ble_eq_true rfl) dX7_givenOf_238 (fun H locs hP _ hS => ?_)
                              have hP : va_P (dC, dI) vwCl (zM k q (sI (sJ (sJ (sA (sA (sA (sA (sI (sI (sI (sI (sA (sA (sA (sA (sA (sA (sA z 4 co4) 5 co5) 6 co6) 7 co7) 8 co8) 9 co9) 10 co10) 12 co12) 13 co13) 14 co14) 15 co15) 16 co16) 17 co17) 18 co18) 34 f_22) 0 oa_30) 1 ob_31) 33 0)) H := hP
                              refine lv_iload hx hb dX7_givenOf_241 (lv_at hl 0 rfl) ?_
                              refine lv_if_eq (tgt := 304) hx hb dX7_givenOf_243 (by decide) (fun c_66 => ?_) (fun c_66 => ?_)
                              · skip
                                exact absurd c_66 (by decide)
                              · skip
                                refine lv_iload_n hx hb dX7_givenOf_246 rfl (lv_at hl 5 rfl) ?_
                                refine lv_if_ne (tgt := 304) hx hb dX7_givenOf_247 (by decide) (fun c_67 => ?_) (fun c_67 => ?_)
                                · skip
                                  have hc_67 := zb_ne rfl (show (0 : Int32).toInt = 0 by decide) c_67
                                  obtain ⟨x_68, ex_68⟩ : ∃ y : Int32, y = ja + 1 := ⟨_, rfl⟩
                                  have hx_68 : x_68.toInt = ja.toInt + 1 := z_add ex_68 rfl (show (1 : Int32).toInt = 1 by decide) (by omega)
                                  refine lv_iinc (v := x_68) (lv' := [(8, .int x_68), (10, .int 1), (9, .int x_8), (6, .long bt), (4, .long tp), (3, .int fu), (2, .int fl), (0, .ref (q 0)), (1, .int pe)]) hx hb dX7_givenOf_304 hl (k := 2) rfl (by rw [ex_68]; rfl) (by decide) rfl (fun ls hl => ?_)
                                  refine lv_goto (tgt := 145) hx hb dX7_givenOf_307 (by decide) ?_
                                  exact ih145 ((120 - x_68.toInt).toNat) (by omega) fu tp bt x_68 oa_30 ob_31 0 f_22 ⟨(show 0 ≤ x_68.toInt ∧ x_68.toInt ≤ 120 by omega), (show 0 ≤ tp.toInt ∧ 1 ≤ bt.toInt by omega), (fun q9 => by omega)⟩ rfl H locs ls hP hS (lv_sub hl [0, 3, 4, 5, 6, 7, 8] rfl)
                                · skip
                                  have hc_67 := zb_eq rfl (show (0 : Int32).toInt = 0 by decide) c_67
                                  refine lv_aload_n hx hb dX7_givenOf_250 rfl (lv_at hl 7 rfl) ?_
                                  refine lv_lload hx hb dX7_givenOf_251 (lv_at hl 4 rfl) ?_
                                  refine lv_aload_n hx hb dX7_givenOf_253 rfl (lv_at hl 7 rfl) ?_
                                  refine va_get (D := (dC, dI)) (ci := 7) (v := .long oa_30) (C := RX7) (T := TX7) (N := 42) hx hb htb inw7 hown hK.1 hP 0 rfl rfl 0 (by decide) (htb _ wmt3_167) (fun _ h9 => h9) rfl dX7_givenOf_254 ?_
                                  refine lv_lmul hx hb dX7_givenOf_257 ?_
                                  refine lv_topl (fun x_69 ex_69 => ?_)
                                  have qx_69 := z_mulb (a := tp.toInt) (b := oa_30.toInt) (A := 1000000000) (B := 11520) (by omega) (by omega)
                                  have hx_69 := zl_mul ex_69 rfl rfl (by omega)
                                  refine lv_lload hx hb dX7_givenOf_258 (lv_at hl 3 rfl) ?_
                                  refine lv_aload_n hx hb dX7_givenOf_260 rfl (lv_at hl 7 rfl) ?_
                                  refine va_get (D := (dC, dI)) (ci := 7) (v := .long ob_31) (C := RX7) (T := TX7) (N := 42) hx hb htb inw7 hown hK.1 hP 0 rfl rfl 1 (by decide) (htb _ wmt3_168) (fun _ h9 => h9) rfl dX7_givenOf_261 ?_
                                  refine lv_lmul hx hb dX7_givenOf_264 ?_
                                  refine lv_topl (fun x_70 ex_70 => ?_)
                                  have qx_70 := z_mulb (a := bt.toInt) (b := ob_31.toInt) (A := 1000000000) (B := 11520) (by omega) (by omega)
                                  have px_70 : 1 * 1 ≤ bt.toInt * ob_31.toInt := Int.mul_le_mul (by omega) (by omega) (by decide) (by omega)
                                  have hx_70 := zl_mul ex_70 rfl rfl (by omega)
                                  refine zcA_v (w := (zM k q (sI (sJ (sJ (sA (sA (sA (sA (sI (sI (sI (sI (sA (sA (sA (sA (sA (sA (sA z 4 co4) 5 co5) 6 co6) 7 co7) 8 co8) 9 co9) 10 co10) 12 co12) 13 co13) 14 co14) 15 co15) 16 co16) 17 co17) 18 co18) 34 f_22) 0 oa_30) 1 ob_31) 33 0))) (va_runV (As := [.long x_69, .long x_70]) (rest := []) ⟨hx, hb, hml, hown, htb⟩ (c_X7_is l dC dI k q (sI (sJ (sJ (sA (sA (sA (sA (sI (sI (sI (sI (sA (sA (sA (sA (sA (sA (sA z 4 co4) 5 co5) 6 co6) 7 co7) 8 co8) 9 co9) 10 co10) 12 co12) 13 co13) 14 co14) 15 co15) 16 co16) 17 co17) 18 co18) 34 f_22) 0 oa_30) 1 ob_31) 33 0) x_69 x_70 _ (show (-4611686018427387904 < x_69.toInt ∧ x_69.toInt < 4611686018427387904) by omega) (show (-4611686018427387904 < x_70.toInt ∧ x_70.toInt < 4611686018427387904) by omega) (show x_70.toInt ≠ 0 by omega)) (cwV 2 htb (gzV wmt4_129 wmt4_131 wmp3_0 wmt1_8 wmt4_132) rfl rfl rfl (by decide +kernel) ⟨Nat.le_of_ble_eq_true rfl, Nat.le_of_ble_eq_true rfl⟩) (zpA_V (ci := 7) (q0 := 0) hK hP (hDa _) rfl rfl) rfl rfl hl.1 rfl (lv_room (Nat.le_of_ble_eq_true rfl)) dX7_givenOf_265 ⟨Nat.le_of_ble_eq_true rfl, Nat.le_of_ble_eq_true rfl⟩) (hDa _) hS hA (fun u_72 H locs w_73 hP _ hS => ?_)
                                  obtain ⟨oa_74, ob_75⟩ := u_72
                                  have hP : va_P (dC, dI) vwCl (zM k q (sJ (sJ (sI (sA (sA (sA (sA (sI (sI (sI (sI (sA (sA (sA (sA (sA (sA (sA z 4 co4) 5 co5) 6 co6) 7 co7) 8 co8) 9 co9) 10 co10) 12 co12) 13 co13) 14 co14) 15 co15) 16 co16) 17 co17) 18 co18) 34 f_22) 33 0) 0 oa_74) 1 ob_75)) H := hP
                                  obtain ⟨h_76, h_77, h_78, h_79, h_80, h_81⟩ := w_73
                                  replace h_76 : 1 ≤ ob_75.toInt ∧ ob_75.toInt ≤ (x_70.toInt.natAbs : Int) := h_76
                                  replace h_77 : (oa_74.toInt.natAbs : Int) ≤ (x_69.toInt.natAbs : Int) := h_77
                                  replace h_78 : (0 ≤ x_69.toInt → 0 < x_70.toInt → 0 ≤ oa_74.toInt) ∧ (0 < x_69.toInt → 0 < x_70.toInt → 1 ≤ oa_74.toInt) := h_78
                                  replace h_79 : ob_75.toInt = ((x_70.toInt.natAbs / Nat.gcd x_69.toInt.natAbs x_70.toInt.natAbs : Nat) : Int) := h_79
                                  replace h_80 : oa_74.toInt = x_69.toInt.tdiv (if x_70.toInt < 0 then -(Nat.gcd x_69.toInt.natAbs x_70.toInt.natAbs : Int) else (Nat.gcd x_69.toInt.natAbs x_70.toInt.natAbs : Int)) := h_80
                                  replace h_81 : Hd (0 ≤ x_69.toInt → 0 < x_70.toInt → oa_74.toInt = frT x_69.toInt x_70.toInt 0 ∧ ob_75.toInt = frT x_69.toInt x_70.toInt 1) := h_81
                                  have his0 := h_76
                                  have his1 := h_77
                                  have his2 := h_78
                                  have his3 := h_79
                                  have his4 := h_80
                                  have his5 := h_81
                                  refine lv_aload_n hx hb dX7_givenOf_268 rfl (lv_at hl 7 rfl) ?_
                                  refine va_get (D := (dC, dI)) (ci := 7) (v := .long oa_74) (C := RX7) (T := TX7) (N := 42) hx hb htb inw7 hown hK.1 hP 0 rfl rfl 0 (by decide) (htb _ wmt3_167) (fun _ h9 => h9) rfl dX7_givenOf_269 ?_
                                  refine lv_lstore (lv' := [(4, .long oa_74), (10, .int 1), (9, .int x_8), (8, .int ja), (6, .long bt), (3, .int fu), (2, .int fl), (0, .ref (q 0)), (1, .int pe)]) hx hb dX7_givenOf_272 hl (by decide) rfl (fun ls hl => ?_)
                                  refine lv_aload_n hx hb dX7_givenOf_274 rfl (lv_at hl 7 rfl) ?_
                                  refine va_get (D := (dC, dI)) (ci := 7) (v := .long ob_75) (C := RX7) (T := TX7) (N := 42) hx hb htb inw7 hown hK.1 hP 0 rfl rfl 1 (by decide) (htb _ wmt3_168) (fun _ h9 => h9) rfl dX7_givenOf_275 ?_
                                  refine lv_lstore (lv' := [(6, .long ob_75), (4, .long oa_74), (10, .int 1), (9, .int x_8), (8, .int ja), (3, .int fu), (2, .int fl), (0, .ref (q 0)), (1, .int pe)]) hx hb dX7_givenOf_278 hl (by decide) rfl (fun ls hl => ?_)
                                  refine lv_lload hx hb dX7_givenOf_280 (lv_at hl 1 rfl) ?_
                                  refine lv_ldc2 (v := 1000000000) hx hb hown (htb _ wmt5_48) dX7_givenOf_282 ?_
                                  refine z_lcmp hx hb dX7_givenOf_285 ?_
                                  refine lv_if_gt (tgt := 298) hx hb dX7_givenOf_286 (by decide) (fun c_83 => ?_) (fun c_83 => ?_)
                                  · skip
                                    have hc_83 := zl_gt rfl (show (1000000000 : Int64).toInt = 1000000000 by decide) c_83
                                    refine lv_iconst (v := 1) hx hb dX7_givenOf_298 (by decide) ?_
                                    refine lv_goto (tgt := 303) hx hb dX7_givenOf_299 (by decide) ?_
                                    refine lv_istore_n (lv' := [(3, .int 1), (6, .long ob_75), (4, .long oa_74), (10, .int 1), (9, .int x_8), (8, .int ja), (2, .int fl), (0, .ref (q 0)), (1, .int pe)]) hx hb dX7_givenOf_303 rfl hl (by decide) rfl (fun ls hl => ?_)
                                    obtain ⟨x_84, ex_84⟩ : ∃ y : Int32, y = ja + 1 := ⟨_, rfl⟩
                                    have hx_84 : x_84.toInt = ja.toInt + 1 := z_add ex_84 rfl (show (1 : Int32).toInt = 1 by decide) (by omega)
                                    refine lv_iinc (v := x_84) (lv' := [(8, .int x_84), (3, .int 1), (6, .long ob_75), (4, .long oa_74), (10, .int 1), (9, .int x_8), (2, .int fl), (0, .ref (q 0)), (1, .int pe)]) hx hb dX7_givenOf_304 hl (k := 5) rfl (by rw [ex_84]; rfl) (by decide) rfl (fun ls hl => ?_)
                                    refine lv_goto (tgt := 145) hx hb dX7_givenOf_307 (by decide) ?_
                                    exact ih145 ((120 - x_84.toInt).toNat) (by omega) 1 oa_74 ob_75 x_84 oa_74 ob_75 0 f_22 ⟨(show 0 ≤ x_84.toInt ∧ x_84.toInt ≤ 120 by omega), (show 0 ≤ oa_74.toInt ∧ 1 ≤ ob_75.toInt by omega), (fun q9 => absurd q9 (by decide))⟩ rfl H locs ls hP hS (lv_sub hl [0, 2, 3, 1, 6, 7, 8] rfl)
                                  · skip
                                    have hc_83 := zl_ngt rfl (show (1000000000 : Int64).toInt = 1000000000 by decide) c_83
                                    refine lv_lload hx hb dX7_givenOf_289 (lv_at hl 0 rfl) ?_
                                    refine lv_ldc2 (v := 1000000000) hx hb hown (htb _ wmt5_48) dX7_givenOf_291 ?_
                                    refine z_lcmp hx hb dX7_givenOf_294 ?_
                                    refine lv_if_le (tgt := 302) hx hb dX7_givenOf_295 (by decide) (fun c_85 => ?_) (fun c_85 => ?_)
                                    · skip
                                      have hc_85 := zl_le rfl (show (1000000000 : Int64).toInt = 1000000000 by decide) c_85
                                      refine lv_iconst (v := 0) hx hb dX7_givenOf_302 (by decide) ?_
                                      refine lv_istore_n (lv' := [(3, .int 0), (6, .long ob_75), (4, .long oa_74), (10, .int 1), (9, .int x_8), (8, .int ja), (2, .int fl), (0, .ref (q 0)), (1, .int pe)]) hx hb dX7_givenOf_303 rfl hl (by decide) rfl (fun ls hl => ?_)
                                      obtain ⟨x_86, ex_86⟩ : ∃ y : Int32, y = ja + 1 := ⟨_, rfl⟩
                                      have hx_86 : x_86.toInt = ja.toInt + 1 := z_add ex_86 rfl (show (1 : Int32).toInt = 1 by decide) (by omega)
                                      refine lv_iinc (v := x_86) (lv' := [(8, .int x_86), (3, .int 0), (6, .long ob_75), (4, .long oa_74), (10, .int 1), (9, .int x_8), (2, .int fl), (0, .ref (q 0)), (1, .int pe)]) hx hb dX7_givenOf_304 hl (k := 5) rfl (by rw [ex_86]; rfl) (by decide) rfl (fun ls hl => ?_)
                                      refine lv_goto (tgt := 145) hx hb dX7_givenOf_307 (by decide) ?_
                                      exact ih145 ((120 - x_86.toInt).toNat) (by omega) 0 oa_74 ob_75 x_86 oa_74 ob_75 0 f_22 ⟨(show 0 ≤ x_86.toInt ∧ x_86.toInt ≤ 120 by omega), (show 0 ≤ oa_74.toInt ∧ 1 ≤ ob_75.toInt by omega), (fun q9 => by omega)⟩ rfl H locs ls hP hS (lv_sub hl [0, 2, 3, 1, 6, 7, 8] rfl)
                                    · skip
                                      have hc_85 := zl_nle rfl (show (1000000000 : Int64).toInt = 1000000000 by decide) c_85
                                      refine lv_iconst (v := 1) hx hb dX7_givenOf_298 (by decide) ?_
                                      refine lv_goto (tgt := 303) hx hb dX7_givenOf_299 (by decide) ?_
                                      refine lv_istore_n (lv' := [(3, .int 1), (6, .long ob_75), (4, .long oa_74), (10, .int 1), (9, .int x_8), (8, .int ja), (2, .int fl), (0, .ref (q 0)), (1, .int pe)]) hx hb dX7_givenOf_303 rfl hl (by decide) rfl (fun ls hl => ?_)
                                      obtain ⟨x_87, ex_87⟩ : ∃ y : Int32, y = ja + 1 := ⟨_, rfl⟩
                                      have hx_87 : x_87.toInt = ja.toInt + 1 := z_add ex_87 rfl (show (1 : Int32).toInt = 1 by decide) (by omega)
                                      refine lv_iinc (v := x_87) (lv' := [(8, .int x_87), (3, .int 1), (6, .long ob_75), (4, .long oa_74), (10, .int 1), (9, .int x_8), (2, .int fl), (0, .ref (q 0)), (1, .int pe)]) hx hb dX7_givenOf_304 hl (k := 5) rfl (by rw [ex_87]; rfl) (by decide) rfl (fun ls hl => ?_)
                                      refine lv_goto (tgt := 145) hx hb dX7_givenOf_307 (by decide) ?_
                                      exact ih145 ((120 - x_87.toInt).toNat) (by omega) 1 oa_74 ob_75 x_87 oa_74 ob_75 0 f_22 ⟨(show 0 ≤ x_87.toInt ∧ x_87.toInt ≤ 120 by omega), (show 0 ≤ oa_74.toInt ∧ 1 ≤ ob_75.toInt by omega), (fun q9 => absurd q9 (by decide))⟩ rfl H locs ls hP hS (lv_sub hl [0, 2, 3, 1, 6, 7, 8] rfl)
                            · skip
                              exact absurd c_65 (by decide)
                        · skip
                          replace e_41 : r_27 = 0 := e_41
                          subst e_41
                          replace h_38 : oa_30 = ja0 := h_38
                          replace h_39 : ob_31 = jb0 := h_39
                          replace h_40 : (if x_26.toInt = 1 then yI (co7 x_8.toNatClampNeg) (co8 x_8.toNatClampNeg) (co9 x_8.toNatClampNeg) (co10 x_8.toNatClampNeg) ((z.1 11)) 0 else 24 * (co6 x_8.toNatClampNeg).toInt - yI (co7 x_8.toNatClampNeg) (co8 x_8.toNatClampNeg) (co9 x_8.toNatClampNeg) (co10 x_8.toNatClampNeg) ((z.1 11)) 0) = 0 := h_40
                          refine lv_istore (lv' := [(10, .int 0), (9, .int x_8), (8, .int ja), (6, .long bt), (4, .long tp), (3, .int fu), (2, .int fl), (0, .ref (q 0)), (1, .int pe)]) hx hb dX7_givenOf_218 hl (by decide) rfl (fun ls hl => ?_)
                          refine lv_aload_n hx hb dX7_givenOf_220 rfl (lv_at hl 7 rfl) ?_
                          refine lv_aload_n hx hb dX7_givenOf_221 rfl (lv_at hl 7 rfl) ?_
                          refine va_get (D := (dC, dI)) (ci := 7) (v := .int nn0) (C := RX7) (T := TX7) (N := 42) hx hb htb inw7 hown hK.1 hP 0 rfl rfl 33 (by decide) (htb _ wmt3_200) (fun _ h9 => h9) rfl dX7_givenOf_222 ?_
                          refine lv_if_ne (tgt := 233) hx hb dX7_givenOf_225 (by decide) (fun c_88 => ?_) (fun c_88 => ?_)
                          · skip
                            have hc_88 := zb_ne rfl (show (0 : Int32).toInt = 0 by decide) c_88
                            refine lv_iconst (v := 1) hx hb dX7_givenOf_233 (by decide) ?_
                            refine lv_goto (tgt := 238) hx hb dX7_givenOf_234 (by decide) ?_
                            refine va_put (D := (dC, dI)) (ci := 7) (v := .int 1) (ty := .boolean) (C := RX7) (T := TX7) (N := 42) hx hb htb inw7 tyX7 tyX7_ok nmX7 hown hK.1 hP (hDa _) hS 0 rfl rfl 33 (by decide) (htb _ wmt3_200) (fun _ h9 => h9) rfl (by decide +kernel) rfl rfl (Nat.le_of_ble_eq_true rfl) dX7_givenOf_238 (fun H locs hP _ hS => ?_)
                            have hP : va_P (dC, dI) vwCl (zM k q (sI (sJ (sJ (sA (sA (sA (sA (sI (sI (sI (sI (sA (sA (sA (sA (sA (sA (sA z 4 co4) 5 co5) 6 co6) 7 co7) 8 co8) 9 co9) 10 co10) 12 co12) 13 co13) 14 co14) 15 co15) 16 co16) 17 co17) 18 co18) 34 f_22) 0 oa_30) 1 ob_31) 33 1)) H := hP
                            refine lv_iload hx hb dX7_givenOf_241 (lv_at hl 0 rfl) ?_
                            refine lv_if_eq (tgt := 304) hx hb dX7_givenOf_243 (by decide) (fun c_89 => ?_) (fun c_89 => ?_)
                            · skip
                              obtain ⟨x_90, ex_90⟩ : ∃ y : Int32, y = ja + 1 := ⟨_, rfl⟩
                              have hx_90 : x_90.toInt = ja.toInt + 1 := z_add ex_90 rfl (show (1 : Int32).toInt = 1 by decide) (by omega)
                              refine lv_iinc (v := x_90) (lv' := [(8, .int x_90), (10, .int 0), (9, .int x_8), (6, .long bt), (4, .long tp), (3, .int fu), (2, .int fl), (0, .ref (q 0)), (1, .int pe)]) hx hb dX7_givenOf_304 hl (k := 2) rfl (by rw [ex_90]; rfl) (by decide) rfl (fun ls hl => ?_)
                              refine lv_goto (tgt := 145) hx hb dX7_givenOf_307 (by decide) ?_
                              exact ih145 ((120 - x_90.toInt).toNat) (by omega) fu tp bt x_90 oa_30 ob_31 1 f_22 ⟨(show 0 ≤ x_90.toInt ∧ x_90.toInt ≤ 120 by omega), (show 0 ≤ tp.toInt ∧ 1 ≤ bt.toInt by omega), (fun q9 => by omega)⟩ rfl H locs ls hP hS (lv_sub hl [0, 3, 4, 5, 6, 7, 8] rfl)
                            · skip
                              exact absurd (by decide) c_89
                          · skip
                            have hc_88 := zb_eq rfl (show (0 : Int32).toInt = 0 by decide) c_88
                            refine lv_iload hx hb dX7_givenOf_228 (lv_at hl 0 rfl) ?_
                            refine lv_if_ne (tgt := 237) hx hb dX7_givenOf_230 (by decide) (fun c_91 => ?_) (fun c_91 => ?_)
                            · skip
                              exact absurd c_91 (by decide)
                            · skip
                              refine lv_iconst (v := 1) hx hb dX7_givenOf_233 (by decide) ?_
                              refine lv_goto (tgt := 238) hx hb dX7_givenOf_234 (by decide) ?_
                              refine va_put (D := (dC, dI)) (ci := 7) (v := .int 1) (ty := .boolean) (C := RX7) (T := TX7) (N := 42) hx hb htb inw7 tyX7 tyX7_ok nmX7 hown hK.1 hP (hDa _) hS 0 rfl rfl 33 (by decide) (htb _ wmt3_200) (fun _ h9 => h9) rfl (by decide +kernel) rfl rfl (Nat.le_of_ble_eq_true rfl) dX7_givenOf_238 (fun H locs hP _ hS => ?_)
                              have hP : va_P (dC, dI) vwCl (zM k q (sI (sJ (sJ (sA (sA (sA (sA (sI (sI (sI (sI (sA (sA (sA (sA (sA (sA (sA z 4 co4) 5 co5) 6 co6) 7 co7) 8 co8) 9 co9) 10 co10) 12 co12) 13 co13) 14 co14) 15 co15) 16 co16) 17 co17) 18 co18) 34 f_22) 0 oa_30) 1 ob_31) 33 1)) H := hP
                              refine lv_iload hx hb dX7_givenOf_241 (lv_at hl 0 rfl) ?_
                              refine lv_if_eq (tgt := 304) hx hb dX7_givenOf_243 (by decide) (fun c_92 => ?_) (fun c_92 => ?_)
                              · skip
                                obtain ⟨x_93, ex_93⟩ : ∃ y : Int32, y = ja + 1 := ⟨_, rfl⟩
                                have hx_93 : x_93.toInt = ja.toInt + 1 := z_add ex_93 rfl (show (1 : Int32).toInt = 1 by decide) (by omega)
                                refine lv_iinc (v := x_93) (lv' := [(8, .int x_93), (10, .int 0), (9, .int x_8), (6, .long bt), (4, .long tp), (3, .int fu), (2, .int fl), (0, .ref (q 0)), (1, .int pe)]) hx hb dX7_givenOf_304 hl (k := 2) rfl (by rw [ex_93]; rfl) (by decide) rfl (fun ls hl => ?_)
                                refine lv_goto (tgt := 145) hx hb dX7_givenOf_307 (by decide) ?_
                                exact ih145 ((120 - x_93.toInt).toNat) (by omega) fu tp bt x_93 oa_30 ob_31 1 f_22 ⟨(show 0 ≤ x_93.toInt ∧ x_93.toInt ≤ 120 by omega), (show 0 ≤ tp.toInt ∧ 1 ≤ bt.toInt by omega), (fun q9 => by omega)⟩ rfl H locs ls hP hS (lv_sub hl [0, 3, 4, 5, 6, 7, 8] rfl)
                              · skip
                                exact absurd (by decide) c_92
                  · skip
                    replace e_18 : r_12 = 0 := e_18
                    subst e_18
                    replace h_17 : ¬ kn (sA (sI (sJ (sJ (sA (sA (sA (sI (sI (sI (sI (sA (sA (sA (sA (sA (sA (sA z 4 co4) 5 co5) 6 co6) 7 co7) 8 co8) 9 co9) 10 co10) 12 co12) 13 co13) 14 co14) 15 co15) 16 co16) 17 co17) 18 co18) 0 ja0) 1 jb0) 33 nn0) 34 ct2) ja.toNatClampNeg := h_17
                    refine lv_if_eq (tgt := 304) hx hb dX7_givenOf_180 (by decide) (fun c_94 => ?_) (fun c_94 => ?_)
                    · skip
                      obtain ⟨x_95, ex_95⟩ : ∃ y : Int32, y = ja + 1 := ⟨_, rfl⟩
                      have hx_95 : x_95.toInt = ja.toInt + 1 := z_add ex_95 rfl (show (1 : Int32).toInt = 1 by decide) (by omega)
                      refine lv_iinc (v := x_95) (lv' := [(8, .int x_95), (9, .int x_8), (6, .long bt), (4, .long tp), (3, .int fu), (2, .int fl), (0, .ref (q 0)), (1, .int pe)]) hx hb dX7_givenOf_304 hl (k := 1) rfl (by rw [ex_95]; rfl) (by decide) rfl (fun ls hl => ?_)
                      refine lv_goto (tgt := 145) hx hb dX7_givenOf_307 (by decide) ?_
                      exact ih145 ((120 - x_95.toInt).toNat) (by omega) fu tp bt x_95 ja0 jb0 nn0 ct2 ⟨(show 0 ≤ x_95.toInt ∧ x_95.toInt ≤ 120 by omega), (show 0 ≤ tp.toInt ∧ 1 ≤ bt.toInt by omega), (fun q9 => by omega)⟩ rfl H locs ls hP hS (lv_sub hl [0, 2, 3, 4, 5, 6, 7] rfl)
                    · skip
                      exact absurd (by decide) c_94
          · skip
            have hc_3 := zb_nle (show (4 : Int32).toInt = 4 by decide) rfl c_3
            refine lv_aload_n hx hb dX7_givenOf_128 rfl (lv_at hl 5 rfl) ?_
            refine va_get (D := (dC, dI)) (ci := 7) (v := .ref (q 34)) (C := RX7) (T := TX7) (N := 42) hx hb htb inw7 hown hK.1 hP 0 rfl rfl 34 (by decide) (htb _ wmt3_201) (fun _ h9 => h9) rfl dX7_givenOf_129 ?_
            refine lv_iload hx hb dX7_givenOf_132 (lv_at hl 0 rfl) ?_
            refine lv_iconst (v := 0) hx hb dX7_givenOf_134 (by decide) ?_
            refine va_iast (D := (dC, dI)) hx hb hK.1 hP (hDa _) hS 19 0 rfl rfl (z_in (by omega)) dX7_givenOf_135 (fun H locs hP _ hS => ?_)
            obtain ⟨f_96, ef_96⟩ : ∃ x : Nat → Int32, x = upd ct jc.toNatClampNeg 0 := ⟨_, rfl⟩
            have hP : va_P (dC, dI) vwCl (zM k q (sA (sA (sA (sA (sI (sI (sI (sI (sA (sA (sA (sA (sA (sA (sA (sI z 33 0) 4 co4) 5 co5) 6 co6) 7 co7) 8 co8) 9 co9) 10 co10) 12 co12) 13 co13) 14 co14) 15 co15) 16 co16) 17 co17) 18 co18) 34 f_96)) H := by rw [ef_96]; exact hP
            obtain ⟨x_97, ex_97⟩ : ∃ y : Int32, y = jc + 1 := ⟨_, rfl⟩
            have hx_97 : x_97.toInt = jc.toInt + 1 := z_add ex_97 rfl (show (1 : Int32).toInt = 1 by decide) (by omega)
            refine lv_iinc (v := x_97) (lv' := [(8, .int x_97), (6, .long 1), (4, .long 1), (3, .int 0), (2, .int fl), (0, .ref (q 0)), (1, .int pe)]) hx hb dX7_givenOf_136 hl (k := 0) rfl (by rw [ex_97]; rfl) (by decide) rfl (fun ls hl => ?_)
            refine lv_goto (tgt := 122) hx hb dX7_givenOf_139 (by decide) ?_
            exact ih122 ((4 - x_97.toInt).toNat) (by omega) x_97 f_96 (show 0 ≤ x_97.toInt ∧ x_97.toInt ≤ 4 by omega) rfl H locs ls hP hS (lv_sub hl [0, 1, 2, 3, 4, 5, 6] rfl)
      · skip
        have hc_2 := zb_ne rfl (show (0 : Int32).toInt = 0 by decide) c_2
        refine lv_bipush (v := (-3)) hx hb dX7_givenOf_116 (by decide) ?_
        exact W.iret (v := (-3)) hx hb hr (fun t ht hW => ⟨⟨(-3), (co4, co5, co6, co7, co8, co9, co10, co12, co13, co14, co15, co16, co17, co18, z.2.1 0, z.2.1 1, 0, z.2.2.1 34), rfl, (show (MD (FR (z.2.2.1 2) (z.2.2.1 3)) co4 co5 co6 co7 co8 co9 co10) ∧ (((-3) : Int32).toInt = 0 → (0 ≤ (z.2.1 0).toInt ∧ (z.2.1 0).toInt ≤ 1000000000) ∧ (1 ≤ (z.2.1 1).toInt ∧ (z.2.1 1).toInt ≤ 1000000000)) ∧ (RK (z.2.2.1 4) (z.2.2.1 5) co4 co5) from ⟨hI.2.2.2.2.2, fun q9 => absurd q9 (by decide), hrk1⟩), ⟨by rw [ht]; exact hP, hDa _⟩⟩, hS.F ht⟩) hS.2.2 dX7_givenOf_118
    · skip
      have hc_1 := zb_nle (show (4 : Int32).toInt = 4 by decide) rfl c_1
      refine lv_iconst (v := 0) hx hb dX7_givenOf_24 (by decide) ?_
      refine lv_istore (lv' := [(9, .int 0), (8, .int dd), (6, .long 1), (4, .long 1), (3, .int 0), (2, .int fl), (0, .ref (q 0)), (1, .int pe)]) hx hb dX7_givenOf_25 hl (by decide) rfl (fun ls hl => ?_)
      obtain ⟨fm, efm⟩ : ∃ x : Int32, fl = x := ⟨_, rfl⟩
      obtain ⟨a2, ea2⟩ : ∃ x : Int32, 0 = x := ⟨_, rfl⟩
      obtain ⟨go4, ego4⟩ : ∃ x : Nat → Int32, co4 = x := ⟨_, rfl⟩
      obtain ⟨go5, ego5⟩ : ∃ x : Nat → Int32, co5 = x := ⟨_, rfl⟩
      obtain ⟨go6, ego6⟩ : ∃ x : Nat → Int32, co6 = x := ⟨_, rfl⟩
      obtain ⟨go7, ego7⟩ : ∃ x : Nat → Int32, co7 = x := ⟨_, rfl⟩
      obtain ⟨go8, ego8⟩ : ∃ x : Nat → Int32, co8 = x := ⟨_, rfl⟩
      obtain ⟨go9, ego9⟩ : ∃ x : Nat → Int32, co9 = x := ⟨_, rfl⟩
      obtain ⟨go10, ego10⟩ : ∃ x : Nat → Int32, co10 = x := ⟨_, rfl⟩
      obtain ⟨go12, ego12⟩ : ∃ x : Int32, co12 = x := ⟨_, rfl⟩
      obtain ⟨go13, ego13⟩ : ∃ x : Int32, co13 = x := ⟨_, rfl⟩
      obtain ⟨go14, ego14⟩ : ∃ x : Int32, co14 = x := ⟨_, rfl⟩
      obtain ⟨go15, ego15⟩ : ∃ x : Int32, co15 = x := ⟨_, rfl⟩
      obtain ⟨go16, ego16⟩ : ∃ x : Nat → Int32, co16 = x := ⟨_, rfl⟩
      obtain ⟨go17, ego17⟩ : ∃ x : Nat → Int32, co17 = x := ⟨_, rfl⟩
      obtain ⟨go18, ego18⟩ : ∃ x : Nat → Int32, co18 = x := ⟨_, rfl⟩
      have hv27 : (0 ≤ a2.toInt ∧ a2.toInt ≤ (z.1 22).toInt) ∧ (MInv (sA (sA (sA (sI (sI (sI (sI (sA (sA (sA (sA (sA (sA (sA (sI z 33 0) 4 go4) 5 go5) 6 go6) 7 go7) 8 go8) 9 go9) 10 go10) 12 go12) 13 go13) 14 go14) 15 go15) 16 go16) 17 go17) 18 go18)) ∧ (RK (z.2.2.1 4) (z.2.2.1 5) go4 go5) ∧ (fm.toInt = 0 → GI z pe go4 go5 dd.toInt a2.toInt) := by subst efm ea2 ego4 ego5 ego6 ego7 ego8 ego9 ego10 ego12 ego13 ego14 ego15 ego16 ego17 ego18; exact ⟨⟨by decide, ha0⟩, hI, hrk1, hgi1⟩
      replace hl : lv_has ls 11 [(9, .int a2), (8, .int dd), (6, .long 1), (4, .long 1), (3, .int 0), (2, .int fm), (0, .ref (q 0)), (1, .int pe)] := by subst efm ea2 ego4 ego5 ego6 ego7 ego8 ego9 ego10 ego12 ego13 ego14 ego15 ego16 ego17 ego18; exact hl
      replace hP : va_P (dC, dI) vwCl (zM k q (sA (sA (sA (sI (sI (sI (sI (sA (sA (sA (sA (sA (sA (sA (sI z 33 0) 4 go4) 5 go5) 6 go6) 7 go7) 8 go8) 9 go9) 10 go10) 12 go12) 13 go13) 14 go14) 15 go15) 16 go16) 17 go17) 18 go18)) H := by subst ego4 ego5 ego6 ego7 ego8 ego9 ego10 ego12 ego13 ego14 ego15 ego16 ego17 ego18; exact hP
      clear efm ea2 ego4 ego5 ego6 ego7 ego8 ego9 ego10 ego12 ego13 ego14 ego15 ego16 ego17 ego18
      obtain ⟨mm27, hm27⟩ : ∃ mm : Nat, mm = (120 - a2.toInt).toNat := ⟨_, rfl⟩
      refine z_cut2 hP hS hl ?_
      clear hl hP
      intro H locs ls hP hS hl
      induction mm27 using Nat.strongRecOn generalizing fm a2 go4 go5 go6 go7 go8 go9 go10 go12 go13 go14 go15 go16 go17 go18 H locs ls with
      | _ mm27 ih27 =>
        obtain ⟨ha2, hI2, hrk2, hgi2⟩ := hv27
        have hI := hI2
        refine lv_iload hx hb dX7_givenOf_27 (lv_at hl 0 rfl) ?_
        refine lv_aload_n hx hb dX7_givenOf_29 rfl (lv_at hl 6 rfl) ?_
        refine va_get (D := (dC, dI)) (ci := 7) (v := .int (z.1 22)) (C := RX7) (T := TX7) (N := 42) hx hb htb inw7 hown hK.1 hP 0 rfl rfl 22 (by decide) (htb _ wmt3_189) (fun _ h9 => h9) rfl dX7_givenOf_30 ?_
        refine lv_topi (fun x_98 ex_98 => ?_)
        have hx_98 : x_98.toInt = (z.1 22).toInt := by rw [ex_98]
        refine lv_icmp_ge (tgt := 106) hx hb dX7_givenOf_33 (by decide) (fun c_99 => ?_) (fun c_99 => ?_)
        · skip
          have hc_99 := zb_le rfl rfl c_99
          obtain ⟨x_100, ex_100⟩ : ∃ y : Int32, y = dd + 1 := ⟨_, rfl⟩
          have hx_100 : x_100.toInt = dd.toInt + 1 := z_add ex_100 rfl (show (1 : Int32).toInt = 1 by decide) (by omega)
          refine lv_iinc (v := x_100) (lv' := [(8, .int x_100), (9, .int a2), (6, .long 1), (4, .long 1), (3, .int 0), (2, .int fm), (0, .ref (q 0)), (1, .int pe)]) hx hb dX7_givenOf_106 hl (k := 1) rfl (by rw [ex_100]; rfl) (by decide) rfl (fun ls hl => ?_)
          refine lv_goto (tgt := 18) hx hb dX7_givenOf_109 (by decide) ?_
          exact ih18 ((4 - x_100.toInt).toNat) (by omega) fm x_100 go4 go5 go6 go7 go8 go9 go10 go12 go13 go14 go15 go16 go17 go18 ⟨(show 0 ≤ x_100.toInt ∧ x_100.toInt ≤ 4 by omega), hI, hrk2, (fun q9 => GI_next (hgi2 q9) (by omega) hx_100)⟩ rfl H locs ls hP hS (lv_sub hl [0, 2, 3, 4, 5, 6, 7] rfl)
        · skip
          have hc_99 := zb_nle rfl rfl c_99
          refine lv_aload_n hx hb dX7_givenOf_36 rfl (lv_at hl 6 rfl) ?_
          refine va_get (D := (dC, dI)) (ci := 7) (v := .ref (q 23)) (C := RX7) (T := TX7) (N := 42) hx hb htb inw7 hown hK.1 hP 0 rfl rfl 23 (by decide) (htb _ wmt3_190) (fun _ h9 => h9) rfl dX7_givenOf_37 ?_
          refine lv_iload hx hb dX7_givenOf_40 (lv_at hl 0 rfl) ?_
          refine va_iald (D := (dC, dI)) hx hb hK.1 hP 14 0 rfl rfl (z_in (by omega)) dX7_givenOf_42 ?_
          refine lv_topi (fun x_101 ex_101 => ?_)
          replace ex_101 : x_101 = (z.2.2.1 23) a2.toNatClampNeg := ex_101
          refine lv_iload_n hx hb dX7_givenOf_43 rfl (lv_at hl 7 rfl) ?_
          refine lv_icmp_ne (tgt := 72) hx hb dX7_givenOf_44 (by decide) (fun c_102 => ?_) (fun c_102 => ?_)
          · skip
            have hc_102 := zb_ne rfl rfl c_102
            have hbyn : ¬ x_101 = pe := fun q => hc_102 (by rw [q])
            refine lv_iconst (v := 0) hx hb dX7_givenOf_72 (by decide) ?_
            refine lv_istore (lv' := [(10, .int 0), (9, .int a2), (8, .int dd), (6, .long 1), (4, .long 1), (3, .int 0), (2, .int fm), (0, .ref (q 0)), (1, .int pe)]) hx hb dX7_givenOf_73 hl (by decide) rfl (fun ls hl => ?_)
            refine lv_iload_n hx hb dX7_givenOf_75 rfl (lv_at hl 6 rfl) ?_
            refine lv_if_ne (tgt := 94) hx hb dX7_givenOf_76 (by decide) (fun c_103 => ?_) (fun c_103 => ?_)
            · skip
              have hc_103 := zb_ne rfl (show (0 : Int32).toInt = 0 by decide) c_103
              refine lv_iconst (v := 1) hx hb dX7_givenOf_94 (by decide) ?_
              refine lv_goto (tgt := 99) hx hb dX7_givenOf_95 (by decide) ?_
              refine lv_istore_n (lv' := [(2, .int 1), (10, .int 0), (9, .int a2), (8, .int dd), (6, .long 1), (4, .long 1), (3, .int 0), (0, .ref (q 0)), (1, .int pe)]) hx hb dX7_givenOf_99 rfl hl (by decide) rfl (fun ls hl => ?_)
              obtain ⟨x_104, ex_104⟩ : ∃ y : Int32, y = a2 + 1 := ⟨_, rfl⟩
              have hx_104 : x_104.toInt = a2.toInt + 1 := z_add ex_104 rfl (show (1 : Int32).toInt = 1 by decide) (by omega)
              refine lv_iinc (v := x_104) (lv' := [(9, .int x_104), (2, .int 1), (10, .int 0), (8, .int dd), (6, .long 1), (4, .long 1), (3, .int 0), (0, .ref (q 0)), (1, .int pe)]) hx hb dX7_givenOf_100 hl (k := 2) rfl (by rw [ex_104]; rfl) (by decide) rfl (fun ls hl => ?_)
              refine lv_goto (tgt := 27) hx hb dX7_givenOf_103 (by decide) ?_
              exact ih27 ((120 - x_104.toInt).toNat) (by omega) 1 x_104 go4 go5 go6 go7 go8 go9 go10 go12 go13 go14 go15 go16 go17 go18 ⟨(show 0 ≤ x_104.toInt ∧ x_104.toInt ≤ (z.1 22).toInt by omega), hI, hrk2, (fun q9 => absurd q9 (by decide))⟩ rfl H locs ls hP hS (lv_sub hl [0, 3, 4, 5, 6, 1, 7, 8] rfl)
            · skip
              have hc_103 := zb_eq rfl (show (0 : Int32).toInt = 0 by decide) c_103
              refine lv_iload hx hb dX7_givenOf_79 (lv_at hl 0 rfl) ?_
              refine lv_if_eq (tgt := 98) hx hb dX7_givenOf_81 (by decide) (fun c_105 => ?_) (fun c_105 => ?_)
              · skip
                refine lv_iconst (v := 0) hx hb dX7_givenOf_98 (by decide) ?_
                refine lv_istore_n (lv' := [(2, .int 0), (10, .int 0), (9, .int a2), (8, .int dd), (6, .long 1), (4, .long 1), (3, .int 0), (0, .ref (q 0)), (1, .int pe)]) hx hb dX7_givenOf_99 rfl hl (by decide) rfl (fun ls hl => ?_)
                obtain ⟨x_106, ex_106⟩ : ∃ y : Int32, y = a2 + 1 := ⟨_, rfl⟩
                have hx_106 : x_106.toInt = a2.toInt + 1 := z_add ex_106 rfl (show (1 : Int32).toInt = 1 by decide) (by omega)
                refine lv_iinc (v := x_106) (lv' := [(9, .int x_106), (2, .int 0), (10, .int 0), (8, .int dd), (6, .long 1), (4, .long 1), (3, .int 0), (0, .ref (q 0)), (1, .int pe)]) hx hb dX7_givenOf_100 hl (k := 2) rfl (by rw [ex_106]; rfl) (by decide) rfl (fun ls hl => ?_)
                refine lv_goto (tgt := 27) hx hb dX7_givenOf_103 (by decide) ?_
                exact ih27 ((120 - x_106.toInt).toNat) (by omega) 0 x_106 go4 go5 go6 go7 go8 go9 go10 go12 go13 go14 go15 go16 go17 go18 ⟨(show 0 ≤ x_106.toInt ∧ x_106.toInt ≤ (z.1 22).toInt by omega), hI, hrk2, (fun _ => GI_skip (hgi2 (by omega)) ha2.1 (fun q1 _ _ => hbyn (by rw [ex_101, q1])) hx_106)⟩ rfl H locs ls hP hS (lv_sub hl [0, 3, 4, 5, 6, 1, 7, 8] rfl)
              · skip
                exact absurd (by decide) c_105
          · skip
            have hc_102 := zb_eq rfl rfl c_102
            refine lv_aload_n hx hb dX7_givenOf_47 rfl (lv_at hl 6 rfl) ?_
            refine va_get (D := (dC, dI)) (ci := 7) (v := .ref (q 24)) (C := RX7) (T := TX7) (N := 42) hx hb htb inw7 hown hK.1 hP 0 rfl rfl 24 (by decide) (htb _ wmt3_191) (fun _ h9 => h9) rfl dX7_givenOf_48 ?_
            refine lv_iload hx hb dX7_givenOf_51 (lv_at hl 0 rfl) ?_
            refine va_iald (D := (dC, dI)) hx hb hK.1 hP 15 0 rfl rfl (z_in (by omega)) dX7_givenOf_53 ?_
            refine lv_topi (fun x_107 ex_107 => ?_)
            replace ex_107 : x_107 = (z.2.2.1 24) a2.toNatClampNeg := ex_107
            have hx_107 : x_107.toInt = ((z.2.2.1 24) a2.toNatClampNeg).toInt := by rw [ex_107]
            refine lv_iload hx hb dX7_givenOf_54 (lv_at hl 1 rfl) ?_
            refine lv_icmp_ne (tgt := 72) hx hb dX7_givenOf_56 (by decide) (fun c_108 => ?_) (fun c_108 => ?_)
            · skip
              have hc_108 := zb_ne rfl rfl c_108
              refine lv_iconst (v := 0) hx hb dX7_givenOf_72 (by decide) ?_
              refine lv_istore (lv' := [(10, .int 0), (9, .int a2), (8, .int dd), (6, .long 1), (4, .long 1), (3, .int 0), (2, .int fm), (0, .ref (q 0)), (1, .int pe)]) hx hb dX7_givenOf_73 hl (by decide) rfl (fun ls hl => ?_)
              refine lv_iload_n hx hb dX7_givenOf_75 rfl (lv_at hl 6 rfl) ?_
              refine lv_if_ne (tgt := 94) hx hb dX7_givenOf_76 (by decide) (fun c_109 => ?_) (fun c_109 => ?_)
              · skip
                have hc_109 := zb_ne rfl (show (0 : Int32).toInt = 0 by decide) c_109
                refine lv_iconst (v := 1) hx hb dX7_givenOf_94 (by decide) ?_
                refine lv_goto (tgt := 99) hx hb dX7_givenOf_95 (by decide) ?_
                refine lv_istore_n (lv' := [(2, .int 1), (10, .int 0), (9, .int a2), (8, .int dd), (6, .long 1), (4, .long 1), (3, .int 0), (0, .ref (q 0)), (1, .int pe)]) hx hb dX7_givenOf_99 rfl hl (by decide) rfl (fun ls hl => ?_)
                obtain ⟨x_110, ex_110⟩ : ∃ y : Int32, y = a2 + 1 := ⟨_, rfl⟩
                have hx_110 : x_110.toInt = a2.toInt + 1 := z_add ex_110 rfl (show (1 : Int32).toInt = 1 by decide) (by omega)
                refine lv_iinc (v := x_110) (lv' := [(9, .int x_110), (2, .int 1), (10, .int 0), (8, .int dd), (6, .long 1), (4, .long 1), (3, .int 0), (0, .ref (q 0)), (1, .int pe)]) hx hb dX7_givenOf_100 hl (k := 2) rfl (by rw [ex_110]; rfl) (by decide) rfl (fun ls hl => ?_)
                refine lv_goto (tgt := 27) hx hb dX7_givenOf_103 (by decide) ?_
                exact ih27 ((120 - x_110.toInt).toNat) (by omega) 1 x_110 go4 go5 go6 go7 go8 go9 go10 go12 go13 go14 go15 go16 go17 go18 ⟨(show 0 ≤ x_110.toInt ∧ x_110.toInt ≤ (z.1 22).toInt by omega), hI, hrk2, (fun q9 => absurd q9 (by decide))⟩ rfl H locs ls hP hS (lv_sub hl [0, 3, 4, 5, 6, 1, 7, 8] rfl)
              · skip
                have hc_109 := zb_eq rfl (show (0 : Int32).toInt = 0 by decide) c_109
                refine lv_iload hx hb dX7_givenOf_79 (lv_at hl 0 rfl) ?_
                refine lv_if_eq (tgt := 98) hx hb dX7_givenOf_81 (by decide) (fun c_111 => ?_) (fun c_111 => ?_)
                · skip
                  refine lv_iconst (v := 0) hx hb dX7_givenOf_98 (by decide) ?_
                  refine lv_istore_n (lv' := [(2, .int 0), (10, .int 0), (9, .int a2), (8, .int dd), (6, .long 1), (4, .long 1), (3, .int 0), (0, .ref (q 0)), (1, .int pe)]) hx hb dX7_givenOf_99 rfl hl (by decide) rfl (fun ls hl => ?_)
                  obtain ⟨x_112, ex_112⟩ : ∃ y : Int32, y = a2 + 1 := ⟨_, rfl⟩
                  have hx_112 : x_112.toInt = a2.toInt + 1 := z_add ex_112 rfl (show (1 : Int32).toInt = 1 by decide) (by omega)
                  refine lv_iinc (v := x_112) (lv' := [(9, .int x_112), (2, .int 0), (10, .int 0), (8, .int dd), (6, .long 1), (4, .long 1), (3, .int 0), (0, .ref (q 0)), (1, .int pe)]) hx hb dX7_givenOf_100 hl (k := 2) rfl (by rw [ex_112]; rfl) (by decide) rfl (fun ls hl => ?_)
                  refine lv_goto (tgt := 27) hx hb dX7_givenOf_103 (by decide) ?_
                  exact ih27 ((120 - x_112.toInt).toNat) (by omega) 0 x_112 go4 go5 go6 go7 go8 go9 go10 go12 go13 go14 go15 go16 go17 go18 ⟨(show 0 ≤ x_112.toInt ∧ x_112.toInt ≤ (z.1 22).toInt by omega), hI, hrk2, (fun _ => GI_skip (hgi2 (by omega)) ha2.1 (fun _ _ q3 => hc_108 (by omega)) hx_112)⟩ rfl H locs ls hP hS (lv_sub hl [0, 3, 4, 5, 6, 1, 7, 8] rfl)
                · skip
                  exact absurd (by decide) c_111
            · skip
              have hc_108 := zb_eq rfl rfl c_108
              refine lv_aload_n hx hb dX7_givenOf_59 rfl (lv_at hl 6 rfl) ?_
              refine lv_iload hx hb dX7_givenOf_60 (lv_at hl 0 rfl) ?_
              refine zcA_i (w := (zM k q (sA (sA (sA (sI (sI (sI (sI (sA (sA (sA (sA (sA (sA (sA (sI z 33 0) 4 go4) 5 go5) 6 go6) 7 go7) 8 go8) 9 go9) 10 go10) 12 go12) 13 go13) 14 go14) 15 go15) 16 go16) 17 go17) 18 go18))) (va_runV (As := [.int a2]) (rest := []) ⟨hx, hb, hml, hown, htb⟩ (c_X7_isKnown l dC dI k q (sA (sA (sA (sI (sI (sI (sI (sA (sA (sA (sA (sA (sA (sA (sI z 33 0) 4 go4) 5 go5) 6 go6) 7 go7) 8 go8) 9 go9) 10 go10) 12 go12) 13 go13) 14 go14) 15 go15) 16 go16) 17 go17) 18 go18) a2 _ (show 0 ≤ a2.toInt ∧ a2.toInt < 120 by omega)) (cwV 1 htb (gzV wmt4_190 wmt4_192 wmp3_6 wmt1_8 wmt4_193) rfl rfl rfl (by decide +kernel) ⟨Nat.le_of_ble_eq_true rfl, Nat.le_of_ble_eq_true rfl⟩) (zpA_V (ci := 7) (q0 := 0) hK hP (hDa _) rfl rfl) rfl rfl hl.1 rfl (lv_room (Nat.le_of_ble_eq_true rfl)) dX7_givenOf_62 ⟨Nat.le_of_ble_eq_true rfl, Nat.le_of_ble_eq_true rfl⟩) (hDa _) hS hA (fun r_113 u_114 H locs w_115 hP _ hS => ?_)
              rcases w_115 with ⟨e_117, h_116⟩ | ⟨e_119, h_118⟩
              · skip
                replace e_117 : r_113 = 1 := e_117
                subst e_117
                replace h_116 : kn (sA (sA (sA (sI (sI (sI (sI (sA (sA (sA (sA (sA (sA (sA (sI z 33 0) 4 go4) 5 go5) 6 go6) 7 go7) 8 go8) 9 go9) 10 go10) 12 go12) 13 go13) 14 go14) 15 go15) 16 go16) 17 go17) 18 go18) a2.toNatClampNeg := h_116
                have hkny : kn z a2.toNatClampNeg := h_116
                refine lv_if_eq (tgt := 72) hx hb dX7_givenOf_65 (by decide) (fun c_120 => ?_) (fun c_120 => ?_)
                · skip
                  exact absurd c_120 (by decide)
                · skip
                  refine lv_iconst (v := 1) hx hb dX7_givenOf_68 (by decide) ?_
                  refine lv_goto (tgt := 73) hx hb dX7_givenOf_69 (by decide) ?_
                  refine lv_istore (lv' := [(10, .int 1), (9, .int a2), (8, .int dd), (6, .long 1), (4, .long 1), (3, .int 0), (2, .int fm), (0, .ref (q 0)), (1, .int pe)]) hx hb dX7_givenOf_73 hl (by decide) rfl (fun ls hl => ?_)
                  refine lv_iload_n hx hb dX7_givenOf_75 rfl (lv_at hl 6 rfl) ?_
                  refine lv_if_ne (tgt := 94) hx hb dX7_givenOf_76 (by decide) (fun c_121 => ?_) (fun c_121 => ?_)
                  · skip
                    have hc_121 := zb_ne rfl (show (0 : Int32).toInt = 0 by decide) c_121
                    refine lv_iconst (v := 1) hx hb dX7_givenOf_94 (by decide) ?_
                    refine lv_goto (tgt := 99) hx hb dX7_givenOf_95 (by decide) ?_
                    refine lv_istore_n (lv' := [(2, .int 1), (10, .int 1), (9, .int a2), (8, .int dd), (6, .long 1), (4, .long 1), (3, .int 0), (0, .ref (q 0)), (1, .int pe)]) hx hb dX7_givenOf_99 rfl hl (by decide) rfl (fun ls hl => ?_)
                    obtain ⟨x_122, ex_122⟩ : ∃ y : Int32, y = a2 + 1 := ⟨_, rfl⟩
                    have hx_122 : x_122.toInt = a2.toInt + 1 := z_add ex_122 rfl (show (1 : Int32).toInt = 1 by decide) (by omega)
                    refine lv_iinc (v := x_122) (lv' := [(9, .int x_122), (2, .int 1), (10, .int 1), (8, .int dd), (6, .long 1), (4, .long 1), (3, .int 0), (0, .ref (q 0)), (1, .int pe)]) hx hb dX7_givenOf_100 hl (k := 2) rfl (by rw [ex_122]; rfl) (by decide) rfl (fun ls hl => ?_)
                    refine lv_goto (tgt := 27) hx hb dX7_givenOf_103 (by decide) ?_
                    exact ih27 ((120 - x_122.toInt).toNat) (by omega) 1 x_122 go4 go5 go6 go7 go8 go9 go10 go12 go13 go14 go15 go16 go17 go18 ⟨(show 0 ≤ x_122.toInt ∧ x_122.toInt ≤ (z.1 22).toInt by omega), hI, hrk2, (fun q9 => absurd q9 (by decide))⟩ rfl H locs ls hP hS (lv_sub hl [0, 3, 4, 5, 6, 1, 7, 8] rfl)
                  · skip
                    have hc_121 := zb_eq rfl (show (0 : Int32).toInt = 0 by decide) c_121
                    refine lv_iload hx hb dX7_givenOf_79 (lv_at hl 0 rfl) ?_
                    refine lv_if_eq (tgt := 98) hx hb dX7_givenOf_81 (by decide) (fun c_123 => ?_) (fun c_123 => ?_)
                    · skip
                      exact absurd c_123 (by decide)
                    · skip
                      refine lv_aload_n hx hb dX7_givenOf_84 rfl (lv_at hl 7 rfl) ?_
                      refine lv_iload hx hb dX7_givenOf_85 (lv_at hl 2 rfl) ?_
                      refine zcA_i (w := (zM k q (sA (sA (sA (sI (sI (sI (sI (sA (sA (sA (sA (sA (sA (sA (sI z 33 0) 4 go4) 5 go5) 6 go6) 7 go7) 8 go8) 9 go9) 10 go10) 12 go12) 13 go13) 14 go14) 15 go15) 16 go16) 17 go17) 18 go18))) (va_runV (As := [.int dd]) (rest := []) ⟨hx, hb, hml, hown, htb⟩ (c_X7_faultOf l dC dI k q (sA (sA (sA (sI (sI (sI (sI (sA (sA (sA (sA (sA (sA (sA (sI z 33 0) 4 go4) 5 go5) 6 go6) 7 go7) 8 go8) 9 go9) 10 go10) 12 go12) 13 go13) 14 go14) 15 go15) 16 go16) 17 go17) 18 go18) dd _ hI (show 0 ≤ dd.toInt ∧ dd.toInt < 4 by omega)) (cwV 1 htb (gzV wmt4_73 wmt4_75 wmp2_6 wmt1_8 wmt4_76) rfl rfl rfl (by decide +kernel) ⟨Nat.le_of_ble_eq_true rfl, Nat.le_of_ble_eq_true rfl⟩) (zpA_V (ci := 7) (q0 := 0) hK hP (hDa _) rfl rfl) rfl rfl hl.1 rfl (lv_room (Nat.le_of_ble_eq_true rfl)) dX7_givenOf_87 ⟨Nat.le_of_ble_eq_true rfl, Nat.le_of_ble_eq_true rfl⟩) (hDa _) hS hA (fun r_124 u_125 H locs w_126 hP _ hS => ?_)
                      obtain ⟨o4_127, o5_128, o6_129, o7_130, o8_131, o9_132, o10_133, o12_134, o13_135, o14_136, o15_137, o16_138, o17_139, o18_140⟩ := u_125
                      have hP : va_P (dC, dI) vwCl (zM k q (sA (sA (sA (sI (sI (sI (sI (sA (sA (sA (sA (sA (sA (sA (sI z 33 0) 4 o4_127) 5 o5_128) 6 o6_129) 7 o7_130) 8 o8_131) 9 o9_132) 10 o10_133) 12 o12_134) 13 o13_135) 14 o14_136) 15 o15_137) 16 o16_138) 17 o17_139) 18 o18_140)) H := hP
                      obtain ⟨h_141, h_142, h_143, h_144, h_145⟩ := w_126
                      replace h_141 : MD (FR ((z.2.2.1 2)) ((z.2.2.1 3))) o4_127 o5_128 o6_129 o7_130 o8_131 o9_132 o10_133 := h_141
                      replace h_142 : ¬ o4_127 dd.toNatClampNeg = 0 := h_142
                      replace h_143 : RK (go4) (go5) o4_127 o5_128 := h_143
                      replace h_144 : R7 (go4) (go6) (go7) (go8) (go9) (go10) o6_129 o7_130 o8_131 o9_132 o10_133 := h_144
                      replace h_145 : r_124 = o5_128 dd.toNatClampNeg := h_145
                      have hI : MInv (sA (sA (sA (sI (sI (sI (sI (sA (sA (sA (sA (sA (sA (sA (sI z 33 0) 4 o4_127) 5 o5_128) 6 o6_129) 7 o7_130) 8 o8_131) 9 o9_132) 10 o10_133) 12 o12_134) 13 o13_135) 14 o14_136) 15 o15_137) 16 o16_138) 17 o17_139) 18 o18_140) := ⟨hI.1, hI.2.1, hI.2.2.1, hI.2.2.2.1, hI.2.2.2.2.1, h_141⟩
                      have hrdn := h_142
                      have hrkn := h_143
                      have hr5n : r_124.toInt = (o5_128 dd.toNatClampNeg).toInt := by rw [h_145]
                      refine lv_iconst (v := (-1)) hx hb dX7_givenOf_90 (by decide) ?_
                      refine lv_icmp_eq (tgt := 98) hx hb dX7_givenOf_91 (by decide) (fun c_147 => ?_) (fun c_147 => ?_)
                      · skip
                        have hc_147 := zb_eq rfl (show ((-1) : Int32).toInt = (-1) by decide) c_147
                        refine lv_iconst (v := 0) hx hb dX7_givenOf_98 (by decide) ?_
                        refine lv_istore_n (lv' := [(2, .int 0), (10, .int 1), (9, .int a2), (8, .int dd), (6, .long 1), (4, .long 1), (3, .int 0), (0, .ref (q 0)), (1, .int pe)]) hx hb dX7_givenOf_99 rfl hl (by decide) rfl (fun ls hl => ?_)
                        obtain ⟨x_148, ex_148⟩ : ∃ y : Int32, y = a2 + 1 := ⟨_, rfl⟩
                        have hx_148 : x_148.toInt = a2.toInt + 1 := z_add ex_148 rfl (show (1 : Int32).toInt = 1 by decide) (by omega)
                        refine lv_iinc (v := x_148) (lv' := [(9, .int x_148), (2, .int 0), (10, .int 1), (8, .int dd), (6, .long 1), (4, .long 1), (3, .int 0), (0, .ref (q 0)), (1, .int pe)]) hx hb dX7_givenOf_100 hl (k := 2) rfl (by rw [ex_148]; rfl) (by decide) rfl (fun ls hl => ?_)
                        refine lv_goto (tgt := 27) hx hb dX7_givenOf_103 (by decide) ?_
                        exact ih27 ((120 - x_148.toInt).toNat) (by omega) 0 x_148 o4_127 o5_128 o6_129 o7_130 o8_131 o9_132 o10_133 o12_134 o13_135 o14_136 o15_137 o16_138 o17_139 o18_140 ⟨(show 0 ≤ x_148.toInt ∧ x_148.toInt ≤ (z.1 22).toInt by omega), hI, (RK_trans hrk2 hrkn), (fun _ => GI_add (GI_rk (hgi2 (by omega)) hrkn) ha2.1 hrdn (by omega) hx_148)⟩ rfl H locs ls hP hS (lv_sub hl [0, 3, 4, 5, 6, 1, 7, 8] rfl)
                      · skip
                        have hc_147 := zb_ne rfl (show ((-1) : Int32).toInt = (-1) by decide) c_147
                        refine lv_iconst (v := 1) hx hb dX7_givenOf_94 (by decide) ?_
                        refine lv_goto (tgt := 99) hx hb dX7_givenOf_95 (by decide) ?_
                        refine lv_istore_n (lv' := [(2, .int 1), (10, .int 1), (9, .int a2), (8, .int dd), (6, .long 1), (4, .long 1), (3, .int 0), (0, .ref (q 0)), (1, .int pe)]) hx hb dX7_givenOf_99 rfl hl (by decide) rfl (fun ls hl => ?_)
                        obtain ⟨x_149, ex_149⟩ : ∃ y : Int32, y = a2 + 1 := ⟨_, rfl⟩
                        have hx_149 : x_149.toInt = a2.toInt + 1 := z_add ex_149 rfl (show (1 : Int32).toInt = 1 by decide) (by omega)
                        refine lv_iinc (v := x_149) (lv' := [(9, .int x_149), (2, .int 1), (10, .int 1), (8, .int dd), (6, .long 1), (4, .long 1), (3, .int 0), (0, .ref (q 0)), (1, .int pe)]) hx hb dX7_givenOf_100 hl (k := 2) rfl (by rw [ex_149]; rfl) (by decide) rfl (fun ls hl => ?_)
                        refine lv_goto (tgt := 27) hx hb dX7_givenOf_103 (by decide) ?_
                        exact ih27 ((120 - x_149.toInt).toNat) (by omega) 1 x_149 o4_127 o5_128 o6_129 o7_130 o8_131 o9_132 o10_133 o12_134 o13_135 o14_136 o15_137 o16_138 o17_139 o18_140 ⟨(show 0 ≤ x_149.toInt ∧ x_149.toInt ≤ (z.1 22).toInt by omega), hI, (RK_trans hrk2 hrkn), (fun q9 => absurd q9 (by decide))⟩ rfl H locs ls hP hS (lv_sub hl [0, 3, 4, 5, 6, 1, 7, 8] rfl)
              · skip
                replace e_119 : r_113 = 0 := e_119
                subst e_119
                replace h_118 : ¬ kn (sA (sA (sA (sI (sI (sI (sI (sA (sA (sA (sA (sA (sA (sA (sI z 33 0) 4 go4) 5 go5) 6 go6) 7 go7) 8 go8) 9 go9) 10 go10) 12 go12) 13 go13) 14 go14) 15 go15) 16 go16) 17 go17) 18 go18) a2.toNatClampNeg := h_118
                have hknn : ¬ kn z a2.toNatClampNeg := h_118
                refine lv_if_eq (tgt := 72) hx hb dX7_givenOf_65 (by decide) (fun c_150 => ?_) (fun c_150 => ?_)
                · skip
                  refine lv_iconst (v := 0) hx hb dX7_givenOf_72 (by decide) ?_
                  refine lv_istore (lv' := [(10, .int 0), (9, .int a2), (8, .int dd), (6, .long 1), (4, .long 1), (3, .int 0), (2, .int fm), (0, .ref (q 0)), (1, .int pe)]) hx hb dX7_givenOf_73 hl (by decide) rfl (fun ls hl => ?_)
                  refine lv_iload_n hx hb dX7_givenOf_75 rfl (lv_at hl 6 rfl) ?_
                  refine lv_if_ne (tgt := 94) hx hb dX7_givenOf_76 (by decide) (fun c_151 => ?_) (fun c_151 => ?_)
                  · skip
                    have hc_151 := zb_ne rfl (show (0 : Int32).toInt = 0 by decide) c_151
                    refine lv_iconst (v := 1) hx hb dX7_givenOf_94 (by decide) ?_
                    refine lv_goto (tgt := 99) hx hb dX7_givenOf_95 (by decide) ?_
                    refine lv_istore_n (lv' := [(2, .int 1), (10, .int 0), (9, .int a2), (8, .int dd), (6, .long 1), (4, .long 1), (3, .int 0), (0, .ref (q 0)), (1, .int pe)]) hx hb dX7_givenOf_99 rfl hl (by decide) rfl (fun ls hl => ?_)
                    obtain ⟨x_152, ex_152⟩ : ∃ y : Int32, y = a2 + 1 := ⟨_, rfl⟩
                    have hx_152 : x_152.toInt = a2.toInt + 1 := z_add ex_152 rfl (show (1 : Int32).toInt = 1 by decide) (by omega)
                    refine lv_iinc (v := x_152) (lv' := [(9, .int x_152), (2, .int 1), (10, .int 0), (8, .int dd), (6, .long 1), (4, .long 1), (3, .int 0), (0, .ref (q 0)), (1, .int pe)]) hx hb dX7_givenOf_100 hl (k := 2) rfl (by rw [ex_152]; rfl) (by decide) rfl (fun ls hl => ?_)
                    refine lv_goto (tgt := 27) hx hb dX7_givenOf_103 (by decide) ?_
                    exact ih27 ((120 - x_152.toInt).toNat) (by omega) 1 x_152 go4 go5 go6 go7 go8 go9 go10 go12 go13 go14 go15 go16 go17 go18 ⟨(show 0 ≤ x_152.toInt ∧ x_152.toInt ≤ (z.1 22).toInt by omega), hI, hrk2, (fun q9 => absurd q9 (by decide))⟩ rfl H locs ls hP hS (lv_sub hl [0, 3, 4, 5, 6, 1, 7, 8] rfl)
                  · skip
                    have hc_151 := zb_eq rfl (show (0 : Int32).toInt = 0 by decide) c_151
                    refine lv_iload hx hb dX7_givenOf_79 (lv_at hl 0 rfl) ?_
                    refine lv_if_eq (tgt := 98) hx hb dX7_givenOf_81 (by decide) (fun c_153 => ?_) (fun c_153 => ?_)
                    · skip
                      refine lv_iconst (v := 0) hx hb dX7_givenOf_98 (by decide) ?_
                      refine lv_istore_n (lv' := [(2, .int 0), (10, .int 0), (9, .int a2), (8, .int dd), (6, .long 1), (4, .long 1), (3, .int 0), (0, .ref (q 0)), (1, .int pe)]) hx hb dX7_givenOf_99 rfl hl (by decide) rfl (fun ls hl => ?_)
                      obtain ⟨x_154, ex_154⟩ : ∃ y : Int32, y = a2 + 1 := ⟨_, rfl⟩
                      have hx_154 : x_154.toInt = a2.toInt + 1 := z_add ex_154 rfl (show (1 : Int32).toInt = 1 by decide) (by omega)
                      refine lv_iinc (v := x_154) (lv' := [(9, .int x_154), (2, .int 0), (10, .int 0), (8, .int dd), (6, .long 1), (4, .long 1), (3, .int 0), (0, .ref (q 0)), (1, .int pe)]) hx hb dX7_givenOf_100 hl (k := 2) rfl (by rw [ex_154]; rfl) (by decide) rfl (fun ls hl => ?_)
                      refine lv_goto (tgt := 27) hx hb dX7_givenOf_103 (by decide) ?_
                      exact ih27 ((120 - x_154.toInt).toNat) (by omega) 0 x_154 go4 go5 go6 go7 go8 go9 go10 go12 go13 go14 go15 go16 go17 go18 ⟨(show 0 ≤ x_154.toInt ∧ x_154.toInt ≤ (z.1 22).toInt by omega), hI, hrk2, (fun _ => GI_skip (hgi2 (by omega)) ha2.1 (fun _ q2 _ => hknn q2) hx_154)⟩ rfl H locs ls hP hS (lv_sub hl [0, 3, 4, 5, 6, 1, 7, 8] rfl)
                    · skip
                      exact absurd (by decide) c_153
                · skip
                  exact absurd (by decide) c_150
set_option maxHeartbeats 4000000 in
set_option maxRecDepth 100000 in
theorem c_X7_givenTold (l : Launch) (dC : Nat → ClassId) (dI : Nat → Nat → Nat) (k : Nat → ClassId) (q : Nat → Nat) (z : ZS) (pe : Int32) (w : Int32) (sz : Nat) (hI : MInv z) : Met l yX7_givenTold (wz yX7_givenTold cX7_givenTold 4 (some .long)) ({ frames := 6, cells := 0, slots := 0, locals := 144 }) (va_Pc [.ref (q 0), .int pe, .int w] (zPre dC dI k (zTX k) (zM k q z) sz)) (va_Ql (fun (r : Int64) (u : (Nat → Int32) × (Nat → Int32) × (Nat → Int32) × (Nat → Int32) × (Nat → Int32) × (Nat → Int32) × (Nat → Int32) × Int32 × Int32 × Int32 × Int32 × (Nat → Int32) × (Nat → Int32) × (Nat → Int32) × Int64 × Int64 × Int32 × (Nat → Int32)) => (MD (FR (z.2.2.1 2) (z.2.2.1 3)) u.1 u.2.1 u.2.2.1 u.2.2.2.1 u.2.2.2.2.1 u.2.2.2.2.2.1 u.2.2.2.2.2.2.1)) (fun u t => zPost dC dI (va_A (zM k q z) sz) (zM k q (sA (sI (sJ (sJ (sA (sA (sA (sI (sI (sI (sI (sA (sA (sA (sA (sA (sA (sA z 4 u.1) 5 u.2.1) 6 u.2.2.1) 7 u.2.2.2.1) 8 u.2.2.2.2.1) 9 u.2.2.2.2.2.1) 10 u.2.2.2.2.2.2.1) 12 u.2.2.2.2.2.2.2.1) 13 u.2.2.2.2.2.2.2.2.1) 14 u.2.2.2.2.2.2.2.2.2.1) 15 u.2.2.2.2.2.2.2.2.2.2.1) 16 u.2.2.2.2.2.2.2.2.2.2.2.1) 17 u.2.2.2.2.2.2.2.2.2.2.2.2.1) 18 u.2.2.2.2.2.2.2.2.2.2.2.2.2.1) 0 u.2.2.2.2.2.2.2.2.2.2.2.2.2.2.1) 1 u.2.2.2.2.2.2.2.2.2.2.2.2.2.2.2.1) 33 u.2.2.2.2.2.2.2.2.2.2.2.2.2.2.2.2.1) 34 u.2.2.2.2.2.2.2.2.2.2.2.2.2.2.2.2.2)) t) (va_A (zM k q z) sz)) 0 0 (va_A (zM k q z) sz) := by
  refine Met.ofW (cc := cX7_givenTold) (maxL := 4) (ret := (some .long)) (by decide) rfl ?_
  intro p e s m args below meth c s₁ B hml hv
  obtain ⟨rfl, hsz, hP, hK, hD0⟩ := hv
  have hx := B.exec
  have hb := B.bytes
  have hr := B.returns
  have hts := atoms_spec (ws := wz yX7_givenTold cX7_givenTold 4 (some .long)) B.pre
  have htb : ∀ w ∈ zw, w.before _ s = true := fun w h => hts w (List.mem_cons_of_mem _ h)
  have hown : s.vm.findClass RX7 = some m.cls := findClass_of_methodNamed B.named
  have hlocks := B.notSynchronized
  clear hts
  subst hsz
  have hD := hD0.self (sz := s.heap.size)
  generalize hAe : va_A (zM k q z) s.heap.size = A at hD ⊢
  have hA : ∀ q : Nat, s.heap.size ≤ q → A q := fun q h => by rw [← hAe]; exact Or.inr h
  have hDa : ∀ z9 : ZS, va_D A (zM k q z9) := fun z9 => va_D_adr (w := zM k q z) rfl hD
  have hl := lv_entry ([.ref (q 0), .int pe, .int w]) (n := 4) (Nat.le_of_ble_eq_true rfl)
  rw [lg_entry_eq]
  generalize (lg_sl ([.ref (q 0), .int pe, .int w]) ++ List.replicate (4 - (lg_sl ([.ref (q 0), .int pe, .int w])).length) Slot.unset).toArray = ls at hl ⊢
  have hl : lv_has ls 4 [(0, .ref (q 0)), (1, .int pe), (2, .int w)] := hl
  refine z_start2 (A := A) (w := (zM k q z)) hP (fun H locs hP hS => ?_)
  clear hD0 hAe
  refine lv_aload_n hx hb dX7_givenTold_0 rfl (lv_at hl 0 rfl) ?_
  refine lv_iload_n hx hb dX7_givenTold_1 rfl (lv_at hl 1 rfl) ?_
  refine zcA_i (w := (zM k q z)) (va_runV (As := [.int pe]) (rest := []) ⟨hx, hb, hml, hown, htb⟩ (c_X7_givenOf l dC dI k q z pe _ hI) (cwV 1 htb (gzV wmt5_44 wmt5_46 wmp4_0 wmt1_8 wmt5_47) rfl rfl rfl (by decide +kernel) ⟨Nat.le_of_ble_eq_true rfl, Nat.le_of_ble_eq_true rfl⟩) (zpA_V (ci := 7) (q0 := 0) hK hP (hDa _) rfl rfl) rfl rfl hl.1 rfl (lv_room (Nat.le_of_ble_eq_true rfl)) dX7_givenTold_2 ⟨Nat.le_of_ble_eq_true rfl, Nat.le_of_ble_eq_true rfl⟩) (hDa _) hS hA (fun r_1 u_2 H locs w_3 hP _ hS => ?_)
  obtain ⟨o4_4, o5_5, o6_6, o7_7, o8_8, o9_9, o10_10, o12_11, o13_12, o14_13, o15_14, o16_15, o17_16, o18_17, oa_18, ob_19, o33_20, o34_21⟩ := u_2
  have hP : va_P (dC, dI) vwCl (zM k q (sA (sI (sJ (sJ (sA (sA (sA (sI (sI (sI (sI (sA (sA (sA (sA (sA (sA (sA z 4 o4_4) 5 o5_5) 6 o6_6) 7 o7_7) 8 o8_8) 9 o9_9) 10 o10_10) 12 o12_11) 13 o13_12) 14 o14_13) 15 o15_14) 16 o16_15) 17 o17_16) 18 o18_17) 0 oa_18) 1 ob_19) 33 o33_20) 34 o34_21)) H := hP
  obtain ⟨h_22, h_23, h_24⟩ := w_3
  replace h_22 : MD (FR ((z.2.2.1 2)) ((z.2.2.1 3))) o4_4 o5_5 o6_6 o7_7 o8_8 o9_9 o10_10 := h_22
  replace h_23 : r_1.toInt = 0 → (0 ≤ oa_18.toInt ∧ oa_18.toInt ≤ 1000000000) ∧ (1 ≤ ob_19.toInt ∧ ob_19.toInt ≤ 1000000000) := h_23
  replace h_24 : RK ((z.2.2.1 4)) ((z.2.2.1 5)) o4_4 o5_5 := h_24
  have hI : MInv (sA (sI (sJ (sJ (sA (sA (sA (sI (sI (sI (sI (sA (sA (sA (sA (sA (sA (sA z 4 o4_4) 5 o5_5) 6 o6_6) 7 o7_7) 8 o8_8) 9 o9_9) 10 o10_10) 12 o12_11) 13 o13_12) 14 o14_13) 15 o15_14) 16 o16_15) 17 o17_16) 18 o18_17) 0 oa_18) 1 ob_19) 33 o33_20) 34 o34_21) := ⟨hI.1, hI.2.1, hI.2.2.1, hI.2.2.2.1, hI.2.2.2.2.1, h_22⟩
  refine lv_istore_n (lv' := [(3, .int r_1), (0, .ref (q 0)), (1, .int pe), (2, .int w)]) hx hb dX7_givenTold_5 rfl hl (by decide) rfl (fun ls hl => ?_)
  refine lv_iload_n hx hb dX7_givenTold_6 rfl (lv_at hl 0 rfl) ?_
  refine lv_if_eq (tgt := 17) hx hb dX7_givenTold_7 (by decide) (fun c_26 => ?_) (fun c_26 => ?_)
  · skip
    have hc_26 := zb_eq rfl (show (0 : Int32).toInt = 0 by decide) c_26
    refine lv_aload_n hx hb dX7_givenTold_17 rfl (lv_at hl 1 rfl) ?_
    refine lv_iload_n hx hb dX7_givenTold_18 rfl (lv_at hl 3 rfl) ?_
    refine zcA_l (w := (zM k q (sA (sI (sJ (sJ (sA (sA (sA (sI (sI (sI (sI (sA (sA (sA (sA (sA (sA (sA z 4 o4_4) 5 o5_5) 6 o6_6) 7 o7_7) 8 o8_8) 9 o9_9) 10 o10_10) 12 o12_11) 13 o13_12) 14 o14_13) 15 o15_14) 16 o16_15) 17 o17_16) 18 o18_17) 0 oa_18) 1 ob_19) 33 o33_20) 34 o34_21))) (va_runV (As := [.int w]) (rest := []) ⟨hx, hb, hml, hown, htb⟩ (c_X7_part l dC dI k q (sA (sI (sJ (sJ (sA (sA (sA (sI (sI (sI (sI (sA (sA (sA (sA (sA (sA (sA z 4 o4_4) 5 o5_5) 6 o6_6) 7 o7_7) 8 o8_8) 9 o9_9) 10 o10_10) 12 o12_11) 13 o13_12) 14 o14_13) 15 o15_14) 16 o16_15) 17 o17_16) 18 o18_17) 0 oa_18) 1 ob_19) 33 o33_20) 34 o34_21) w _ ) (cwV 1 htb (gzV wmt4_133 wmt4_135 wmp3_1 wmt1_8 wmt4_136) rfl rfl rfl (by decide +kernel) ⟨Nat.le_of_ble_eq_true rfl, Nat.le_of_ble_eq_true rfl⟩) (zpA_V (ci := 7) (q0 := 0) hK hP (hDa _) rfl rfl) rfl rfl hl.1 rfl (lv_room (Nat.le_of_ble_eq_true rfl)) dX7_givenTold_19 ⟨Nat.le_of_ble_eq_true rfl, Nat.le_of_ble_eq_true rfl⟩) (hDa _) hS hA (fun r_27 u_28 H locs w_29 hP _ hS => ?_)
    have h_30 := w_29
    replace h_30 : (w.toInt = 0 → r_27 = oa_18) ∧ (¬ w.toInt = 0 → r_27 = ob_19) := h_30
    exact W.lret (v := r_27) hx hb hr (fun t ht hW => ⟨⟨r_27, (o4_4, o5_5, o6_6, o7_7, o8_8, o9_9, o10_10, o12_11, o13_12, o14_13, o15_14, o16_15, o17_16, o18_17, oa_18, ob_19, o33_20, o34_21), rfl, (show (MD (FR (z.2.2.1 2) (z.2.2.1 3)) o4_4 o5_5 o6_6 o7_7 o8_8 o9_9 o10_10) from hI.2.2.2.2.2), ⟨by rw [ht]; exact hP, hDa _⟩⟩, hS.F ht⟩) hS.2.2 dX7_givenTold_22
  · skip
    have hc_26 := zb_ne rfl (show (0 : Int32).toInt = 0 by decide) c_26
    refine lv_iload_n hx hb dX7_givenTold_10 rfl (lv_at hl 0 rfl) ?_
    refine zc0_l (w := (zM k q (sA (sI (sJ (sJ (sA (sA (sA (sI (sI (sI (sI (sA (sA (sA (sA (sA (sA (sA z 4 o4_4) 5 o5_5) 6 o6_6) 7 o7_7) 8 o8_8) 9 o9_9) 10 o10_10) 12 o12_11) 13 o13_12) 14 o14_13) 15 o15_14) 16 o16_15) 17 o17_16) 18 o18_17) 0 oa_18) 1 ob_19) 33 o33_20) 34 o34_21))) (va_runS (As := [.int r_1]) (rest := []) ⟨hx, hb, hml, hown, htb⟩ (c_X7_told l dC dI k r_1 _ ) (va_cwS 1 htb (gzS wmt4_116 wmt4_117 wmt1_8 wmt4_118) rfl rfl rfl (by decide +kernel) ⟨Nat.le_of_ble_eq_true rfl, Nat.le_of_ble_eq_true rfl⟩) (zp0_S hK) rfl rfl hl.1 rfl (lv_room (Nat.le_of_ble_eq_true rfl)) dX7_givenTold_11 ⟨Nat.le_of_ble_eq_true rfl, Nat.le_of_ble_eq_true rfl⟩) hP hS hA (fun r_32 u_33 H locs w_34 hP hS => ?_)
    have h_35 := w_34
    replace h_35 : r_32.toInt = tl r_1 := h_35
    refine lv_goto (tgt := 22) hx hb dX7_givenTold_14 (by decide) ?_
    exact W.lret (v := r_32) hx hb hr (fun t ht hW => ⟨⟨r_32, (o4_4, o5_5, o6_6, o7_7, o8_8, o9_9, o10_10, o12_11, o13_12, o14_13, o15_14, o16_15, o17_16, o18_17, oa_18, ob_19, o33_20, o34_21), rfl, (show (MD (FR (z.2.2.1 2) (z.2.2.1 3)) o4_4 o5_5 o6_6 o7_7 o8_8 o9_9 o10_10) from hI.2.2.2.2.2), ⟨by rw [ht]; exact hP, hDa _⟩⟩, hS.F ht⟩) hS.2.2 dX7_givenTold_22
set_option maxHeartbeats 4000000 in
set_option maxRecDepth 100000 in
theorem c_X7_given (l : Launch) (dC : Nat → ClassId) (dI : Nat → Nat → Nat) (k : Nat → ClassId) (q : Nat → Nat) (z : ZS) (pe : Int32) (w : Int32) (sz : Nat) (hI : MInv z) : Met l yX7_given (wz yX7_given cX7_given 3 (some .long)) ({ frames := 7, cells := 0, slots := 0, locals := 167 }) (va_Pc [.ref (q 0), .int pe, .int w] (zPre dC dI k (zTX k) (zM k q z) sz)) (va_Ql (fun (r : Int64) (u : (Nat → Int32) × (Nat → Int32) × (Nat → Int32) × (Nat → Int32) × (Nat → Int32) × (Nat → Int32) × (Nat → Int32) × Int32 × Int32 × Int32 × Int32 × (Nat → Int32) × (Nat → Int32) × (Nat → Int32) × Int64 × Int64 × Int32 × (Nat → Int32)) => (MD (FR (z.2.2.1 2) (z.2.2.1 3)) u.1 u.2.1 u.2.2.1 u.2.2.2.1 u.2.2.2.2.1 u.2.2.2.2.2.1 u.2.2.2.2.2.2.1)) (fun u t => zPost dC dI (va_A (zM k q z) sz) (zM k q (sA (sI (sJ (sJ (sA (sA (sA (sI (sI (sI (sI (sA (sA (sA (sA (sA (sA (sA z 4 u.1) 5 u.2.1) 6 u.2.2.1) 7 u.2.2.2.1) 8 u.2.2.2.2.1) 9 u.2.2.2.2.2.1) 10 u.2.2.2.2.2.2.1) 12 u.2.2.2.2.2.2.2.1) 13 u.2.2.2.2.2.2.2.2.1) 14 u.2.2.2.2.2.2.2.2.2.1) 15 u.2.2.2.2.2.2.2.2.2.2.1) 16 u.2.2.2.2.2.2.2.2.2.2.2.1) 17 u.2.2.2.2.2.2.2.2.2.2.2.2.1) 18 u.2.2.2.2.2.2.2.2.2.2.2.2.2.1) 0 u.2.2.2.2.2.2.2.2.2.2.2.2.2.2.1) 1 u.2.2.2.2.2.2.2.2.2.2.2.2.2.2.2.1) 33 u.2.2.2.2.2.2.2.2.2.2.2.2.2.2.2.2.1) 34 u.2.2.2.2.2.2.2.2.2.2.2.2.2.2.2.2.2)) t) (va_A (zM k q z) sz)) 0 0 (va_A (zM k q z) sz) := by
  refine Met.ofW (cc := cX7_given) (maxL := 3) (ret := (some .long)) (by decide) rfl ?_
  intro p e s m args below meth c s₁ B hml hv
  obtain ⟨rfl, hsz, hP, hK, hD0⟩ := hv
  have hx := B.exec
  have hb := B.bytes
  have hr := B.returns
  have hts := atoms_spec (ws := wz yX7_given cX7_given 3 (some .long)) B.pre
  have htb : ∀ w ∈ zw, w.before _ s = true := fun w h => hts w (List.mem_cons_of_mem _ h)
  have hown : s.vm.findClass RX7 = some m.cls := findClass_of_methodNamed B.named
  have hlocks := B.notSynchronized
  clear hts
  subst hsz
  have hD := hD0.self (sz := s.heap.size)
  generalize hAe : va_A (zM k q z) s.heap.size = A at hD ⊢
  have hA : ∀ q : Nat, s.heap.size ≤ q → A q := fun q h => by rw [← hAe]; exact Or.inr h
  have hDa : ∀ z9 : ZS, va_D A (zM k q z9) := fun z9 => va_D_adr (w := zM k q z) rfl hD
  have hl := lv_entry ([.ref (q 0), .int pe, .int w]) (n := 3) (Nat.le_of_ble_eq_true rfl)
  rw [lg_entry_eq]
  generalize (lg_sl ([.ref (q 0), .int pe, .int w]) ++ List.replicate (3 - (lg_sl ([.ref (q 0), .int pe, .int w])).length) Slot.unset).toArray = ls at hl ⊢
  have hl : lv_has ls 3 [(0, .ref (q 0)), (1, .int pe), (2, .int w)] := hl
  refine z_start2 (A := A) (w := (zM k q z)) hP (fun H locs hP hS => ?_)
  clear hD0 hAe
  refine lv_iload_n hx hb dX7_given_0 rfl (lv_at hl 1 rfl) ?_
  refine zc0_i (w := (zM k q z)) (va_runS (As := [.int pe]) (rest := []) ⟨hx, hb, hml, hown, htb⟩ (c_X7_isPerson l dC dI k pe _ ) (va_cwS 1 htb (gzS wmt4_153 wmt4_154 wmt1_8 wmt4_155) rfl rfl rfl (by decide +kernel) ⟨Nat.le_of_ble_eq_true rfl, Nat.le_of_ble_eq_true rfl⟩) (zp0_S hK) rfl rfl hl.1 rfl (lv_room (Nat.le_of_ble_eq_true rfl)) dX7_given_1 ⟨Nat.le_of_ble_eq_true rfl, Nat.le_of_ble_eq_true rfl⟩) hP hS hA (fun r_1 u_2 H locs w_3 hP hS => ?_)
  rcases w_3 with ⟨e_5, h_4⟩ | ⟨e_7, h_6⟩
  · skip
    replace e_5 : r_1 = 1 := e_5
    subst e_5
    replace h_4 : 0 ≤ pe.toInt ∧ pe.toInt < 24 := h_4
    refine lv_if_eq (tgt := 25) hx hb dX7_given_4 (by decide) (fun c_8 => ?_) (fun c_8 => ?_)
    · skip
      exact absurd c_8 (by decide)
    · skip
      refine lv_iload_n hx hb dX7_given_7 rfl (lv_at hl 2 rfl) ?_
      refine lv_iconst (v := 0) hx hb dX7_given_8 (by decide) ?_
      refine lv_iconst (v := 1) hx hb dX7_given_9 (by decide) ?_
      refine zc0_i (w := (zM k q z)) (va_runS (As := [.int w, .int 0, .int 1]) (rest := []) ⟨hx, hb, hml, hown, htb⟩ (c_X7_in l dC dI k w 0 1 _ ) (va_cwS 3 htb (gzS wmt4_62 wmt4_63 wmt1_8 wmt4_64) rfl rfl rfl (by decide +kernel) ⟨Nat.le_of_ble_eq_true rfl, Nat.le_of_ble_eq_true rfl⟩) (zp0_S hK) rfl rfl hl.1 rfl (lv_room (Nat.le_of_ble_eq_true rfl)) dX7_given_10 ⟨Nat.le_of_ble_eq_true rfl, Nat.le_of_ble_eq_true rfl⟩) hP hS hA (fun r_9 u_10 H locs w_11 hP hS => ?_)
      rcases w_11 with ⟨e_13, h_12⟩ | ⟨e_15, h_14⟩
      · skip
        replace e_13 : r_9 = 1 := e_13
        subst e_13
        replace h_12 : (0 : Int32).toInt ≤ w.toInt ∧ w.toInt ≤ (1 : Int32).toInt := h_12
        rw [show (0 : Int32).toInt = 0 by decide, show (1 : Int32).toInt = 1 by decide] at h_12
        refine lv_if_eq (tgt := 25) hx hb dX7_given_13 (by decide) (fun c_16 => ?_) (fun c_16 => ?_)
        · skip
          exact absurd c_16 (by decide)
        · skip
          refine lv_aload_n hx hb dX7_given_16 rfl (lv_at hl 0 rfl) ?_
          refine lv_iload_n hx hb dX7_given_17 rfl (lv_at hl 1 rfl) ?_
          refine lv_iload_n hx hb dX7_given_18 rfl (lv_at hl 2 rfl) ?_
          refine zcA_l (w := (zM k q z)) (va_runV (As := [.int pe, .int w]) (rest := []) ⟨hx, hb, hml, hown, htb⟩ (c_X7_givenTold l dC dI k q z pe w _ hI) (cwV 2 htb (gzV wmt5_40 wmt5_42 wmp3_15 wmt1_8 wmt5_43) rfl rfl rfl (by decide +kernel) ⟨Nat.le_of_ble_eq_true rfl, Nat.le_of_ble_eq_true rfl⟩) (zpA_V (ci := 7) (q0 := 0) hK hP (hDa _) rfl rfl) rfl rfl hl.1 rfl (lv_room (Nat.le_of_ble_eq_true rfl)) dX7_given_19 ⟨Nat.le_of_ble_eq_true rfl, Nat.le_of_ble_eq_true rfl⟩) (hDa _) hS hA (fun r_17 u_18 H locs w_19 hP _ hS => ?_)
          obtain ⟨o4_20, o5_21, o6_22, o7_23, o8_24, o9_25, o10_26, o12_27, o13_28, o14_29, o15_30, o16_31, o17_32, o18_33, oa_34, ob_35, o33_36, o34_37⟩ := u_18
          have hP : va_P (dC, dI) vwCl (zM k q (sA (sI (sJ (sJ (sA (sA (sA (sI (sI (sI (sI (sA (sA (sA (sA (sA (sA (sA z 4 o4_20) 5 o5_21) 6 o6_22) 7 o7_23) 8 o8_24) 9 o9_25) 10 o10_26) 12 o12_27) 13 o13_28) 14 o14_29) 15 o15_30) 16 o16_31) 17 o17_32) 18 o18_33) 0 oa_34) 1 ob_35) 33 o33_36) 34 o34_37)) H := hP
          have h_38 := w_19
          replace h_38 : MD (FR ((z.2.2.1 2)) ((z.2.2.1 3))) o4_20 o5_21 o6_22 o7_23 o8_24 o9_25 o10_26 := h_38
          have hI : MInv (sA (sI (sJ (sJ (sA (sA (sA (sI (sI (sI (sI (sA (sA (sA (sA (sA (sA (sA z 4 o4_20) 5 o5_21) 6 o6_22) 7 o7_23) 8 o8_24) 9 o9_25) 10 o10_26) 12 o12_27) 13 o13_28) 14 o14_29) 15 o15_30) 16 o16_31) 17 o17_32) 18 o18_33) 0 oa_34) 1 ob_35) 33 o33_36) 34 o34_37) := ⟨hI.1, hI.2.1, hI.2.2.1, hI.2.2.2.1, hI.2.2.2.2.1, h_38⟩
          refine lv_goto (tgt := 30) hx hb dX7_given_22 (by decide) ?_
          exact W.lret (v := r_17) hx hb hr (fun t ht hW => ⟨⟨r_17, (o4_20, o5_21, o6_22, o7_23, o8_24, o9_25, o10_26, o12_27, o13_28, o14_29, o15_30, o16_31, o17_32, o18_33, oa_34, ob_35, o33_36, o34_37), rfl, (show (MD (FR (z.2.2.1 2) (z.2.2.1 3)) o4_20 o5_21 o6_22 o7_23 o8_24 o9_25 o10_26) from hI.2.2.2.2.2), ⟨by rw [ht]; exact hP, hDa _⟩⟩, hS.F ht⟩) hS.2.2 dX7_given_30
      · skip
        replace e_15 : r_9 = 0 := e_15
        subst e_15
        replace h_14 : ¬ ((0 : Int32).toInt ≤ w.toInt ∧ w.toInt ≤ (1 : Int32).toInt) := h_14
        rw [show (0 : Int32).toInt = 0 by decide, show (1 : Int32).toInt = 1 by decide] at h_14
        refine lv_if_eq (tgt := 25) hx hb dX7_given_13 (by decide) (fun c_40 => ?_) (fun c_40 => ?_)
        · skip
          refine lv_bipush (v := (-2)) hx hb dX7_given_25 (by decide) ?_
          refine zc0_l (w := (zM k q z)) (va_runS (As := [.int (-2)]) (rest := []) ⟨hx, hb, hml, hown, htb⟩ (c_X7_told l dC dI k (-2) _ ) (va_cwS 1 htb (gzS wmt4_116 wmt4_117 wmt1_8 wmt4_118) rfl rfl rfl (by decide +kernel) ⟨Nat.le_of_ble_eq_true rfl, Nat.le_of_ble_eq_true rfl⟩) (zp0_S hK) rfl rfl hl.1 rfl (lv_room (Nat.le_of_ble_eq_true rfl)) dX7_given_27 ⟨Nat.le_of_ble_eq_true rfl, Nat.le_of_ble_eq_true rfl⟩) hP hS hA (fun r_41 u_42 H locs w_43 hP hS => ?_)
          have h_44 := w_43
          replace h_44 : r_41.toInt = tl ((-2) : Int32) := h_44
          exact W.lret (v := r_41) hx hb hr (fun t ht hW => ⟨⟨r_41, (z.2.2.1 4, z.2.2.1 5, z.2.2.1 6, z.2.2.1 7, z.2.2.1 8, z.2.2.1 9, z.2.2.1 10, z.1 12, z.1 13, z.1 14, z.1 15, z.2.2.1 16, z.2.2.1 17, z.2.2.1 18, z.2.1 0, z.2.1 1, z.1 33, z.2.2.1 34), rfl, (show (MD (FR (z.2.2.1 2) (z.2.2.1 3)) (z.2.2.1 4) (z.2.2.1 5) (z.2.2.1 6) (z.2.2.1 7) (z.2.2.1 8) (z.2.2.1 9) (z.2.2.1 10)) from hI.2.2.2.2.2), ⟨by rw [ht]; exact hP, hDa _⟩⟩, hS.F ht⟩) hS.2.2 dX7_given_30
        · skip
          exact absurd (by decide) c_40
  · skip
    replace e_7 : r_1 = 0 := e_7
    subst e_7
    replace h_6 : ¬ (0 ≤ pe.toInt ∧ pe.toInt < 24) := h_6
    refine lv_if_eq (tgt := 25) hx hb dX7_given_4 (by decide) (fun c_46 => ?_) (fun c_46 => ?_)
    · skip
      refine lv_bipush (v := (-2)) hx hb dX7_given_25 (by decide) ?_
      refine zc0_l (w := (zM k q z)) (va_runS (As := [.int (-2)]) (rest := []) ⟨hx, hb, hml, hown, htb⟩ (c_X7_told l dC dI k (-2) _ ) (va_cwS 1 htb (gzS wmt4_116 wmt4_117 wmt1_8 wmt4_118) rfl rfl rfl (by decide +kernel) ⟨Nat.le_of_ble_eq_true rfl, Nat.le_of_ble_eq_true rfl⟩) (zp0_S hK) rfl rfl hl.1 rfl (lv_room (Nat.le_of_ble_eq_true rfl)) dX7_given_27 ⟨Nat.le_of_ble_eq_true rfl, Nat.le_of_ble_eq_true rfl⟩) hP hS hA (fun r_47 u_48 H locs w_49 hP hS => ?_)
      have h_50 := w_49
      replace h_50 : r_47.toInt = tl ((-2) : Int32) := h_50
      exact W.lret (v := r_47) hx hb hr (fun t ht hW => ⟨⟨r_47, (z.2.2.1 4, z.2.2.1 5, z.2.2.1 6, z.2.2.1 7, z.2.2.1 8, z.2.2.1 9, z.2.2.1 10, z.1 12, z.1 13, z.1 14, z.1 15, z.2.2.1 16, z.2.2.1 17, z.2.2.1 18, z.2.1 0, z.2.1 1, z.1 33, z.2.2.1 34), rfl, (show (MD (FR (z.2.2.1 2) (z.2.2.1 3)) (z.2.2.1 4) (z.2.2.1 5) (z.2.2.1 6) (z.2.2.1 7) (z.2.2.1 8) (z.2.2.1 9) (z.2.2.1 10)) from hI.2.2.2.2.2), ⟨by rw [ht]; exact hP, hDa _⟩⟩, hS.F ht⟩) hS.2.2 dX7_given_30
    · skip
      exact absurd (by decide) c_46
set_option maxHeartbeats 4000000 in
set_option maxRecDepth 100000 in
theorem c_X7_has (l : Launch) (dC : Nat → ClassId) (dI : Nat → Nat → Nat) (k : Nat → ClassId) (q : Nat → Nat) (z : ZS) (pe : Int32) (n : Int32) (w : Int32) (sz : Nat) (hI : MInv z) : Met l yX7_has (wz yX7_has cX7_has 5 (some .long)) ({ frames := 6, cells := 0, slots := 0, locals := 144 }) (va_Pc [.ref (q 0), .int pe, .int n, .int w] (zPre dC dI k (zTX k) (zM k q z) sz)) (va_Ql (fun (r : Int64) (u : (Nat → Int32) × (Nat → Int32) × (Nat → Int32) × (Nat → Int32) × (Nat → Int32) × (Nat → Int32) × (Nat → Int32) × Int32 × Int32 × Int32 × Int32 × (Nat → Int32) × (Nat → Int32) × (Nat → Int32) × Int64 × Int64 × Int32 × (Nat → Int32)) => (MD (FR (z.2.2.1 2) (z.2.2.1 3)) u.1 u.2.1 u.2.2.1 u.2.2.2.1 u.2.2.2.2.1 u.2.2.2.2.2.1 u.2.2.2.2.2.2.1)) (fun u t => zPost dC dI (va_A (zM k q z) sz) (zM k q (sA (sI (sJ (sJ (sA (sA (sA (sI (sI (sI (sI (sA (sA (sA (sA (sA (sA (sA z 4 u.1) 5 u.2.1) 6 u.2.2.1) 7 u.2.2.2.1) 8 u.2.2.2.2.1) 9 u.2.2.2.2.2.1) 10 u.2.2.2.2.2.2.1) 12 u.2.2.2.2.2.2.2.1) 13 u.2.2.2.2.2.2.2.2.1) 14 u.2.2.2.2.2.2.2.2.2.1) 15 u.2.2.2.2.2.2.2.2.2.2.1) 16 u.2.2.2.2.2.2.2.2.2.2.2.1) 17 u.2.2.2.2.2.2.2.2.2.2.2.2.1) 18 u.2.2.2.2.2.2.2.2.2.2.2.2.2.1) 0 u.2.2.2.2.2.2.2.2.2.2.2.2.2.2.1) 1 u.2.2.2.2.2.2.2.2.2.2.2.2.2.2.2.1) 33 u.2.2.2.2.2.2.2.2.2.2.2.2.2.2.2.2.1) 34 u.2.2.2.2.2.2.2.2.2.2.2.2.2.2.2.2.2)) t) (va_A (zM k q z) sz)) 0 0 (va_A (zM k q z) sz) := by
  refine Met.ofW (cc := cX7_has) (maxL := 5) (ret := (some .long)) (by decide) rfl ?_
  intro p e s m args below meth c s₁ B hml hv
  obtain ⟨rfl, hsz, hP, hK, hD0⟩ := hv
  have hx := B.exec
  have hb := B.bytes
  have hr := B.returns
  have hts := atoms_spec (ws := wz yX7_has cX7_has 5 (some .long)) B.pre
  have htb : ∀ w ∈ zw, w.before _ s = true := fun w h => hts w (List.mem_cons_of_mem _ h)
  have hown : s.vm.findClass RX7 = some m.cls := findClass_of_methodNamed B.named
  have hlocks := B.notSynchronized
  clear hts
  subst hsz
  have hD := hD0.self (sz := s.heap.size)
  generalize hAe : va_A (zM k q z) s.heap.size = A at hD ⊢
  have hA : ∀ q : Nat, s.heap.size ≤ q → A q := fun q h => by rw [← hAe]; exact Or.inr h
  have hDa : ∀ z9 : ZS, va_D A (zM k q z9) := fun z9 => va_D_adr (w := zM k q z) rfl hD
  have hl := lv_entry ([.ref (q 0), .int pe, .int n, .int w]) (n := 5) (Nat.le_of_ble_eq_true rfl)
  rw [lg_entry_eq]
  generalize (lg_sl ([.ref (q 0), .int pe, .int n, .int w]) ++ List.replicate (5 - (lg_sl ([.ref (q 0), .int pe, .int n, .int w])).length) Slot.unset).toArray = ls at hl ⊢
  have hl : lv_has ls 5 [(0, .ref (q 0)), (1, .int pe), (2, .int n), (3, .int w)] := hl
  refine z_start2 (A := A) (w := (zM k q z)) hP (fun H locs hP hS => ?_)
  clear hD0 hAe
  refine lv_iload_n hx hb dX7_has_0 rfl (lv_at hl 1 rfl) ?_
  refine zc0_i (w := (zM k q z)) (va_runS (As := [.int pe]) (rest := []) ⟨hx, hb, hml, hown, htb⟩ (c_X7_isPerson l dC dI k pe _ ) (va_cwS 1 htb (gzS wmt4_153 wmt4_154 wmt1_8 wmt4_155) rfl rfl rfl (by decide +kernel) ⟨Nat.le_of_ble_eq_true rfl, Nat.le_of_ble_eq_true rfl⟩) (zp0_S hK) rfl rfl hl.1 rfl (lv_room (Nat.le_of_ble_eq_true rfl)) dX7_has_1 ⟨Nat.le_of_ble_eq_true rfl, Nat.le_of_ble_eq_true rfl⟩) hP hS hA (fun r_1 u_2 H locs w_3 hP hS => ?_)
  rcases w_3 with ⟨e_5, h_4⟩ | ⟨e_7, h_6⟩
  · skip
    replace e_5 : r_1 = 1 := e_5
    subst e_5
    replace h_4 : 0 ≤ pe.toInt ∧ pe.toInt < 24 := h_4
    refine lv_if_eq (tgt := 26) hx hb dX7_has_4 (by decide) (fun c_8 => ?_) (fun c_8 => ?_)
    · skip
      exact absurd c_8 (by decide)
    · skip
      refine lv_iload_n hx hb dX7_has_7 rfl (lv_at hl 2 rfl) ?_
      refine lv_iconst (v := 1) hx hb dX7_has_8 (by decide) ?_
      refine lv_bipush (v := 99) hx hb dX7_has_9 (by decide) ?_
      refine zc0_i (w := (zM k q z)) (va_runS (As := [.int n, .int 1, .int 99]) (rest := []) ⟨hx, hb, hml, hown, htb⟩ (c_X7_in l dC dI k n 1 99 _ ) (va_cwS 3 htb (gzS wmt4_62 wmt4_63 wmt1_8 wmt4_64) rfl rfl rfl (by decide +kernel) ⟨Nat.le_of_ble_eq_true rfl, Nat.le_of_ble_eq_true rfl⟩) (zp0_S hK) rfl rfl hl.1 rfl (lv_room (Nat.le_of_ble_eq_true rfl)) dX7_has_11 ⟨Nat.le_of_ble_eq_true rfl, Nat.le_of_ble_eq_true rfl⟩) hP hS hA (fun r_9 u_10 H locs w_11 hP hS => ?_)
      rcases w_11 with ⟨e_13, h_12⟩ | ⟨e_15, h_14⟩
      · skip
        replace e_13 : r_9 = 1 := e_13
        subst e_13
        replace h_12 : (1 : Int32).toInt ≤ n.toInt ∧ n.toInt ≤ (99 : Int32).toInt := h_12
        rw [show (1 : Int32).toInt = 1 by decide, show (99 : Int32).toInt = 99 by decide] at h_12
        refine lv_if_eq (tgt := 26) hx hb dX7_has_14 (by decide) (fun c_16 => ?_) (fun c_16 => ?_)
        · skip
          exact absurd c_16 (by decide)
        · skip
          refine lv_iload_n hx hb dX7_has_17 rfl (lv_at hl 3 rfl) ?_
          refine lv_iconst (v := 0) hx hb dX7_has_18 (by decide) ?_
          refine lv_iconst (v := 1) hx hb dX7_has_19 (by decide) ?_
          refine zc0_i (w := (zM k q z)) (va_runS (As := [.int w, .int 0, .int 1]) (rest := []) ⟨hx, hb, hml, hown, htb⟩ (c_X7_in l dC dI k w 0 1 _ ) (va_cwS 3 htb (gzS wmt4_62 wmt4_63 wmt1_8 wmt4_64) rfl rfl rfl (by decide +kernel) ⟨Nat.le_of_ble_eq_true rfl, Nat.le_of_ble_eq_true rfl⟩) (zp0_S hK) rfl rfl hl.1 rfl (lv_room (Nat.le_of_ble_eq_true rfl)) dX7_has_20 ⟨Nat.le_of_ble_eq_true rfl, Nat.le_of_ble_eq_true rfl⟩) hP hS hA (fun r_17 u_18 H locs w_19 hP hS => ?_)
          rcases w_19 with ⟨e_21, h_20⟩ | ⟨e_23, h_22⟩
          · skip
            replace e_21 : r_17 = 1 := e_21
            subst e_21
            replace h_20 : (0 : Int32).toInt ≤ w.toInt ∧ w.toInt ≤ (1 : Int32).toInt := h_20
            rw [show (0 : Int32).toInt = 0 by decide, show (1 : Int32).toInt = 1 by decide] at h_20
            refine lv_if_ne (tgt := 32) hx hb dX7_has_23 (by decide) (fun c_24 => ?_) (fun c_24 => ?_)
            · skip
              refine lv_aload_n hx hb dX7_has_32 rfl (lv_at hl 0 rfl) ?_
              refine lv_iload_n hx hb dX7_has_33 rfl (lv_at hl 1 rfl) ?_
              refine zcA_i (w := (zM k q z)) (va_runV (As := [.int pe]) (rest := []) ⟨hx, hb, hml, hown, htb⟩ (c_X7_givenOf l dC dI k q z pe _ hI) (cwV 1 htb (gzV wmt5_44 wmt5_46 wmp4_0 wmt1_8 wmt5_47) rfl rfl rfl (by decide +kernel) ⟨Nat.le_of_ble_eq_true rfl, Nat.le_of_ble_eq_true rfl⟩) (zpA_V (ci := 7) (q0 := 0) hK hP (hDa _) rfl rfl) rfl rfl hl.1 rfl (lv_room (Nat.le_of_ble_eq_true rfl)) dX7_has_34 ⟨Nat.le_of_ble_eq_true rfl, Nat.le_of_ble_eq_true rfl⟩) (hDa _) hS hA (fun r_25 u_26 H locs w_27 hP _ hS => ?_)
              obtain ⟨o4_28, o5_29, o6_30, o7_31, o8_32, o9_33, o10_34, o12_35, o13_36, o14_37, o15_38, o16_39, o17_40, o18_41, oa_42, ob_43, o33_44, o34_45⟩ := u_26
              have hP : va_P (dC, dI) vwCl (zM k q (sA (sI (sJ (sJ (sA (sA (sA (sI (sI (sI (sI (sA (sA (sA (sA (sA (sA (sA z 4 o4_28) 5 o5_29) 6 o6_30) 7 o7_31) 8 o8_32) 9 o9_33) 10 o10_34) 12 o12_35) 13 o13_36) 14 o14_37) 15 o15_38) 16 o16_39) 17 o17_40) 18 o18_41) 0 oa_42) 1 ob_43) 33 o33_44) 34 o34_45)) H := hP
              obtain ⟨h_46, h_47, h_48⟩ := w_27
              replace h_46 : MD (FR ((z.2.2.1 2)) ((z.2.2.1 3))) o4_28 o5_29 o6_30 o7_31 o8_32 o9_33 o10_34 := h_46
              replace h_47 : r_25.toInt = 0 → (0 ≤ oa_42.toInt ∧ oa_42.toInt ≤ 1000000000) ∧ (1 ≤ ob_43.toInt ∧ ob_43.toInt ≤ 1000000000) := h_47
              replace h_48 : RK ((z.2.2.1 4)) ((z.2.2.1 5)) o4_28 o5_29 := h_48
              have hI : MInv (sA (sI (sJ (sJ (sA (sA (sA (sI (sI (sI (sI (sA (sA (sA (sA (sA (sA (sA z 4 o4_28) 5 o5_29) 6 o6_30) 7 o7_31) 8 o8_32) 9 o9_33) 10 o10_34) 12 o12_35) 13 o13_36) 14 o14_37) 15 o15_38) 16 o16_39) 17 o17_40) 18 o18_41) 0 oa_42) 1 ob_43) 33 o33_44) 34 o34_45) := ⟨hI.1, hI.2.1, hI.2.2.1, hI.2.2.2.1, hI.2.2.2.2.1, h_46⟩
              have hgo := h_47
              refine lv_istore (lv' := [(4, .int r_25), (0, .ref (q 0)), (1, .int pe), (2, .int n), (3, .int w)]) hx hb dX7_has_37 hl (by decide) rfl (fun ls hl => ?_)
              refine lv_iload hx hb dX7_has_39 (lv_at hl 0 rfl) ?_
              refine lv_bipush (v := (-3)) hx hb dX7_has_41 (by decide) ?_
              refine lv_icmp_ne (tgt := 55) hx hb dX7_has_43 (by decide) (fun c_50 => ?_) (fun c_50 => ?_)
              · skip
                have hc_50 := zb_ne rfl (show ((-3) : Int32).toInt = (-3) by decide) c_50
                refine lv_iload hx hb dX7_has_55 (lv_at hl 0 rfl) ?_
                refine lv_if_eq (tgt := 66) hx hb dX7_has_57 (by decide) (fun c_51 => ?_) (fun c_51 => ?_)
                · skip
                  have hc_51 := zb_eq rfl (show (0 : Int32).toInt = 0 by decide) c_51
                  have hgo2 := hgo (by omega)
                  refine lv_aload_n hx hb dX7_has_66 rfl (lv_at hl 1 rfl) ?_
                  refine lv_iload_n hx hb dX7_has_67 rfl (lv_at hl 3 rfl) ?_
                  refine lv_i2l (v := n.toInt64) hx hb dX7_has_68 rfl ?_
                  refine lv_topl (fun x_52 ex_52 => ?_)
                  have hx_52 : x_52.toInt = n.toInt := by rw [ex_52]; exact Jvm.Kit.i64_of_i32 _
                  refine lv_aload_n hx hb dX7_has_69 rfl (lv_at hl 1 rfl) ?_
                  refine va_get (D := (dC, dI)) (ci := 7) (v := .long oa_42) (C := RX7) (T := TX7) (N := 42) hx hb htb inw7 hown hK.1 hP 0 rfl rfl 0 (by decide) (htb _ wmt3_167) (fun _ h9 => h9) rfl dX7_has_70 ?_
                  refine lv_lmul hx hb dX7_has_73 ?_
                  refine lv_topl (fun x_53 ex_53 => ?_)
                  have qx_53 := z_mulb (a := x_52.toInt) (b := oa_42.toInt) (A := 99) (B := 1000000000) (by omega) (by omega)
                  have hx_53 := zl_mul ex_53 rfl rfl (by omega)
                  refine lv_iload_n hx hb dX7_has_74 rfl (lv_at hl 3 rfl) ?_
                  refine lv_i2l (v := n.toInt64) hx hb dX7_has_75 rfl ?_
                  refine lv_topl (fun x_54 ex_54 => ?_)
                  have hx_54 : x_54.toInt = n.toInt := by rw [ex_54]; exact Jvm.Kit.i64_of_i32 _
                  refine lv_aload_n hx hb dX7_has_76 rfl (lv_at hl 1 rfl) ?_
                  refine va_get (D := (dC, dI)) (ci := 7) (v := .long oa_42) (C := RX7) (T := TX7) (N := 42) hx hb htb inw7 hown hK.1 hP 0 rfl rfl 0 (by decide) (htb _ wmt3_167) (fun _ h9 => h9) rfl dX7_has_77 ?_
                  refine lv_lmul hx hb dX7_has_80 ?_
                  refine lv_topl (fun x_55 ex_55 => ?_)
                  have qx_55 := z_mulb (a := x_54.toInt) (b := oa_42.toInt) (A := 99) (B := 1000000000) (by omega) (by omega)
                  have hx_55 := zl_mul ex_55 rfl rfl (by omega)
                  refine lv_ldc2 (v := 100) hx hb hown (htb _ wmt5_15) dX7_has_81 ?_
                  refine lv_iload_n hx hb dX7_has_84 rfl (lv_at hl 3 rfl) ?_
                  refine lv_i2l (v := n.toInt64) hx hb dX7_has_85 rfl ?_
                  refine lv_topl (fun x_56 ex_56 => ?_)
                  have hx_56 : x_56.toInt = n.toInt := by rw [ex_56]; exact Jvm.Kit.i64_of_i32 _
                  refine lv_lsub hx hb dX7_has_86 ?_
                  refine lv_topl (fun x_57 ex_57 => ?_)
                  have hx_57 := zl_sub ex_57 (show (100 : Int64).toInt = 100 by decide) rfl (by omega)
                  refine lv_aload_n hx hb dX7_has_87 rfl (lv_at hl 1 rfl) ?_
                  refine va_get (D := (dC, dI)) (ci := 7) (v := .long ob_43) (C := RX7) (T := TX7) (N := 42) hx hb htb inw7 hown hK.1 hP 0 rfl rfl 1 (by decide) (htb _ wmt3_168) (fun _ h9 => h9) rfl dX7_has_88 ?_
                  refine lv_lmul hx hb dX7_has_91 ?_
                  refine lv_topl (fun x_58 ex_58 => ?_)
                  have qx_58 := z_mulb (a := x_57.toInt) (b := ob_43.toInt) (A := 99) (B := 1000000000) (by omega) (by omega)
                  have px_58 : 1 * 1 ≤ x_57.toInt * ob_43.toInt := Int.mul_le_mul (by omega) (by omega) (by decide) (by omega)
                  have hx_58 := zl_mul ex_58 rfl rfl (by omega)
                  refine lv_ladd hx hb dX7_has_92 ?_
                  refine lv_topl (fun x_59 ex_59 => ?_)
                  have hx_59 := zl_add ex_59 rfl rfl (by omega)
                  refine zcA_v (w := (zM k q (sA (sI (sJ (sJ (sA (sA (sA (sI (sI (sI (sI (sA (sA (sA (sA (sA (sA (sA z 4 o4_28) 5 o5_29) 6 o6_30) 7 o7_31) 8 o8_32) 9 o9_33) 10 o10_34) 12 o12_35) 13 o13_36) 14 o14_37) 15 o15_38) 16 o16_39) 17 o17_40) 18 o18_41) 0 oa_42) 1 ob_43) 33 o33_44) 34 o34_45))) (va_runV (As := [.long x_53, .long x_59]) (rest := []) ⟨hx, hb, hml, hown, htb⟩ (c_X7_is l dC dI k q (sA (sI (sJ (sJ (sA (sA (sA (sI (sI (sI (sI (sA (sA (sA (sA (sA (sA (sA z 4 o4_28) 5 o5_29) 6 o6_30) 7 o7_31) 8 o8_32) 9 o9_33) 10 o10_34) 12 o12_35) 13 o13_36) 14 o14_37) 15 o15_38) 16 o16_39) 17 o17_40) 18 o18_41) 0 oa_42) 1 ob_43) 33 o33_44) 34 o34_45) x_53 x_59 _ (show (-4611686018427387904 < x_53.toInt ∧ x_53.toInt < 4611686018427387904) by omega) (show (-4611686018427387904 < x_59.toInt ∧ x_59.toInt < 4611686018427387904) by omega) (show x_59.toInt ≠ 0 by omega)) (cwV 2 htb (gzV wmt4_129 wmt4_131 wmp3_0 wmt1_8 wmt4_132) rfl rfl rfl (by decide +kernel) ⟨Nat.le_of_ble_eq_true rfl, Nat.le_of_ble_eq_true rfl⟩) (zpA_V (ci := 7) (q0 := 0) hK hP (hDa _) rfl rfl) rfl rfl hl.1 rfl (lv_room (Nat.le_of_ble_eq_true rfl)) dX7_has_93 ⟨Nat.le_of_ble_eq_true rfl, Nat.le_of_ble_eq_true rfl⟩) (hDa _) hS hA (fun u_61 H locs w_62 hP _ hS => ?_)
                  obtain ⟨oa_63, ob_64⟩ := u_61
                  have hP : va_P (dC, dI) vwCl (zM k q (sJ (sJ (sA (sI (sA (sA (sA (sI (sI (sI (sI (sA (sA (sA (sA (sA (sA (sA z 4 o4_28) 5 o5_29) 6 o6_30) 7 o7_31) 8 o8_32) 9 o9_33) 10 o10_34) 12 o12_35) 13 o13_36) 14 o14_37) 15 o15_38) 16 o16_39) 17 o17_40) 18 o18_41) 33 o33_44) 34 o34_45) 0 oa_63) 1 ob_64)) H := hP
                  obtain ⟨h_65, h_66, h_67, h_68, h_69, h_70⟩ := w_62
                  replace h_65 : 1 ≤ ob_64.toInt ∧ ob_64.toInt ≤ (x_59.toInt.natAbs : Int) := h_65
                  replace h_66 : (oa_63.toInt.natAbs : Int) ≤ (x_53.toInt.natAbs : Int) := h_66
                  replace h_67 : (0 ≤ x_53.toInt → 0 < x_59.toInt → 0 ≤ oa_63.toInt) ∧ (0 < x_53.toInt → 0 < x_59.toInt → 1 ≤ oa_63.toInt) := h_67
                  replace h_68 : ob_64.toInt = ((x_59.toInt.natAbs / Nat.gcd x_53.toInt.natAbs x_59.toInt.natAbs : Nat) : Int) := h_68
                  replace h_69 : oa_63.toInt = x_53.toInt.tdiv (if x_59.toInt < 0 then -(Nat.gcd x_53.toInt.natAbs x_59.toInt.natAbs : Int) else (Nat.gcd x_53.toInt.natAbs x_59.toInt.natAbs : Int)) := h_69
                  replace h_70 : Hd (0 ≤ x_53.toInt → 0 < x_59.toInt → oa_63.toInt = frT x_53.toInt x_59.toInt 0 ∧ ob_64.toInt = frT x_53.toInt x_59.toInt 1) := h_70
                  refine lv_aload_n hx hb dX7_has_96 rfl (lv_at hl 1 rfl) ?_
                  refine lv_iload_n hx hb dX7_has_97 rfl (lv_at hl 4 rfl) ?_
                  refine zcA_l (w := (zM k q (sJ (sJ (sA (sI (sA (sA (sA (sI (sI (sI (sI (sA (sA (sA (sA (sA (sA (sA z 4 o4_28) 5 o5_29) 6 o6_30) 7 o7_31) 8 o8_32) 9 o9_33) 10 o10_34) 12 o12_35) 13 o13_36) 14 o14_37) 15 o15_38) 16 o16_39) 17 o17_40) 18 o18_41) 33 o33_44) 34 o34_45) 0 oa_63) 1 ob_64))) (va_runV (As := [.int w]) (rest := []) ⟨hx, hb, hml, hown, htb⟩ (c_X7_part l dC dI k q (sJ (sJ (sA (sI (sA (sA (sA (sI (sI (sI (sI (sA (sA (sA (sA (sA (sA (sA z 4 o4_28) 5 o5_29) 6 o6_30) 7 o7_31) 8 o8_32) 9 o9_33) 10 o10_34) 12 o12_35) 13 o13_36) 14 o14_37) 15 o15_38) 16 o16_39) 17 o17_40) 18 o18_41) 33 o33_44) 34 o34_45) 0 oa_63) 1 ob_64) w _ ) (cwV 1 htb (gzV wmt4_133 wmt4_135 wmp3_1 wmt1_8 wmt4_136) rfl rfl rfl (by decide +kernel) ⟨Nat.le_of_ble_eq_true rfl, Nat.le_of_ble_eq_true rfl⟩) (zpA_V (ci := 7) (q0 := 0) hK hP (hDa _) rfl rfl) rfl rfl hl.1 rfl (lv_room (Nat.le_of_ble_eq_true rfl)) dX7_has_98 ⟨Nat.le_of_ble_eq_true rfl, Nat.le_of_ble_eq_true rfl⟩) (hDa _) hS hA (fun r_72 u_73 H locs w_74 hP _ hS => ?_)
                  have h_75 := w_74
                  replace h_75 : (w.toInt = 0 → r_72 = oa_63) ∧ (¬ w.toInt = 0 → r_72 = ob_64) := h_75
                  exact W.lret (v := r_72) hx hb hr (fun t ht hW => ⟨⟨r_72, (o4_28, o5_29, o6_30, o7_31, o8_32, o9_33, o10_34, o12_35, o13_36, o14_37, o15_38, o16_39, o17_40, o18_41, oa_63, ob_64, o33_44, o34_45), rfl, (show (MD (FR (z.2.2.1 2) (z.2.2.1 3)) o4_28 o5_29 o6_30 o7_31 o8_32 o9_33 o10_34) from hI.2.2.2.2.2), ⟨by rw [ht]; exact hP, hDa _⟩⟩, hS.F ht⟩) hS.2.2 dX7_has_101
                · skip
                  have hc_51 := zb_ne rfl (show (0 : Int32).toInt = 0 by decide) c_51
                  refine lv_iload hx hb dX7_has_60 (lv_at hl 0 rfl) ?_
                  refine zc0_l (w := (zM k q (sA (sI (sJ (sJ (sA (sA (sA (sI (sI (sI (sI (sA (sA (sA (sA (sA (sA (sA z 4 o4_28) 5 o5_29) 6 o6_30) 7 o7_31) 8 o8_32) 9 o9_33) 10 o10_34) 12 o12_35) 13 o13_36) 14 o14_37) 15 o15_38) 16 o16_39) 17 o17_40) 18 o18_41) 0 oa_42) 1 ob_43) 33 o33_44) 34 o34_45))) (va_runS (As := [.int r_25]) (rest := []) ⟨hx, hb, hml, hown, htb⟩ (c_X7_told l dC dI k r_25 _ ) (va_cwS 1 htb (gzS wmt4_116 wmt4_117 wmt1_8 wmt4_118) rfl rfl rfl (by decide +kernel) ⟨Nat.le_of_ble_eq_true rfl, Nat.le_of_ble_eq_true rfl⟩) (zp0_S hK) rfl rfl hl.1 rfl (lv_room (Nat.le_of_ble_eq_true rfl)) dX7_has_62 ⟨Nat.le_of_ble_eq_true rfl, Nat.le_of_ble_eq_true rfl⟩) hP hS hA (fun r_77 u_78 H locs w_79 hP hS => ?_)
                  have h_80 := w_79
                  replace h_80 : r_77.toInt = tl r_25 := h_80
                  exact W.lret (v := r_77) hx hb hr (fun t ht hW => ⟨⟨r_77, (o4_28, o5_29, o6_30, o7_31, o8_32, o9_33, o10_34, o12_35, o13_36, o14_37, o15_38, o16_39, o17_40, o18_41, oa_42, ob_43, o33_44, o34_45), rfl, (show (MD (FR (z.2.2.1 2) (z.2.2.1 3)) o4_28 o5_29 o6_30 o7_31 o8_32 o9_33 o10_34) from hI.2.2.2.2.2), ⟨by rw [ht]; exact hP, hDa _⟩⟩, hS.F ht⟩) hS.2.2 dX7_has_65
              · skip
                have hc_50 := zb_eq rfl (show ((-3) : Int32).toInt = (-3) by decide) c_50
                refine lv_aload_n hx hb dX7_has_46 rfl (lv_at hl 1 rfl) ?_
                refine va_get (D := (dC, dI)) (ci := 7) (v := .int o33_44) (C := RX7) (T := TX7) (N := 42) hx hb htb inw7 hown hK.1 hP 0 rfl rfl 33 (by decide) (htb _ wmt3_200) (fun _ h9 => h9) rfl dX7_has_47 ?_
                refine lv_if_eq (tgt := 55) hx hb dX7_has_50 (by decide) (fun c_82 => ?_) (fun c_82 => ?_)
                · skip
                  have hc_82 := zb_eq rfl (show (0 : Int32).toInt = 0 by decide) c_82
                  refine lv_iload hx hb dX7_has_55 (lv_at hl 0 rfl) ?_
                  refine lv_if_eq (tgt := 66) hx hb dX7_has_57 (by decide) (fun c_83 => ?_) (fun c_83 => ?_)
                  · skip
                    have hc_83 := zb_eq rfl (show (0 : Int32).toInt = 0 by decide) c_83
                    have hgo2 := hgo (by omega)
                    refine lv_aload_n hx hb dX7_has_66 rfl (lv_at hl 1 rfl) ?_
                    refine lv_iload_n hx hb dX7_has_67 rfl (lv_at hl 3 rfl) ?_
                    refine lv_i2l (v := n.toInt64) hx hb dX7_has_68 rfl ?_
                    refine lv_topl (fun x_84 ex_84 => ?_)
                    have hx_84 : x_84.toInt = n.toInt := by rw [ex_84]; exact Jvm.Kit.i64_of_i32 _
                    refine lv_aload_n hx hb dX7_has_69 rfl (lv_at hl 1 rfl) ?_
                    refine va_get (D := (dC, dI)) (ci := 7) (v := .long oa_42) (C := RX7) (T := TX7) (N := 42) hx hb htb inw7 hown hK.1 hP 0 rfl rfl 0 (by decide) (htb _ wmt3_167) (fun _ h9 => h9) rfl dX7_has_70 ?_
                    refine lv_lmul hx hb dX7_has_73 ?_
                    refine lv_topl (fun x_85 ex_85 => ?_)
                    have qx_85 := z_mulb (a := x_84.toInt) (b := oa_42.toInt) (A := 99) (B := 1000000000) (by omega) (by omega)
                    have hx_85 := zl_mul ex_85 rfl rfl (by omega)
                    refine lv_iload_n hx hb dX7_has_74 rfl (lv_at hl 3 rfl) ?_
                    refine lv_i2l (v := n.toInt64) hx hb dX7_has_75 rfl ?_
                    refine lv_topl (fun x_86 ex_86 => ?_)
                    have hx_86 : x_86.toInt = n.toInt := by rw [ex_86]; exact Jvm.Kit.i64_of_i32 _
                    refine lv_aload_n hx hb dX7_has_76 rfl (lv_at hl 1 rfl) ?_
                    refine va_get (D := (dC, dI)) (ci := 7) (v := .long oa_42) (C := RX7) (T := TX7) (N := 42) hx hb htb inw7 hown hK.1 hP 0 rfl rfl 0 (by decide) (htb _ wmt3_167) (fun _ h9 => h9) rfl dX7_has_77 ?_
                    refine lv_lmul hx hb dX7_has_80 ?_
                    refine lv_topl (fun x_87 ex_87 => ?_)
                    have qx_87 := z_mulb (a := x_86.toInt) (b := oa_42.toInt) (A := 99) (B := 1000000000) (by omega) (by omega)
                    have hx_87 := zl_mul ex_87 rfl rfl (by omega)
                    refine lv_ldc2 (v := 100) hx hb hown (htb _ wmt5_15) dX7_has_81 ?_
                    refine lv_iload_n hx hb dX7_has_84 rfl (lv_at hl 3 rfl) ?_
                    refine lv_i2l (v := n.toInt64) hx hb dX7_has_85 rfl ?_
                    refine lv_topl (fun x_88 ex_88 => ?_)
                    have hx_88 : x_88.toInt = n.toInt := by rw [ex_88]; exact Jvm.Kit.i64_of_i32 _
                    refine lv_lsub hx hb dX7_has_86 ?_
                    refine lv_topl (fun x_89 ex_89 => ?_)
                    have hx_89 := zl_sub ex_89 (show (100 : Int64).toInt = 100 by decide) rfl (by omega)
                    refine lv_aload_n hx hb dX7_has_87 rfl (lv_at hl 1 rfl) ?_
                    refine va_get (D := (dC, dI)) (ci := 7) (v := .long ob_43) (C := RX7) (T := TX7) (N := 42) hx hb htb inw7 hown hK.1 hP 0 rfl rfl 1 (by decide) (htb _ wmt3_168) (fun _ h9 => h9) rfl dX7_has_88 ?_
                    refine lv_lmul hx hb dX7_has_91 ?_
                    refine lv_topl (fun x_90 ex_90 => ?_)
                    have qx_90 := z_mulb (a := x_89.toInt) (b := ob_43.toInt) (A := 99) (B := 1000000000) (by omega) (by omega)
                    have px_90 : 1 * 1 ≤ x_89.toInt * ob_43.toInt := Int.mul_le_mul (by omega) (by omega) (by decide) (by omega)
                    have hx_90 := zl_mul ex_90 rfl rfl (by omega)
                    refine lv_ladd hx hb dX7_has_92 ?_
                    refine lv_topl (fun x_91 ex_91 => ?_)
                    have hx_91 := zl_add ex_91 rfl rfl (by omega)
                    refine zcA_v (w := (zM k q (sA (sI (sJ (sJ (sA (sA (sA (sI (sI (sI (sI (sA (sA (sA (sA (sA (sA (sA z 4 o4_28) 5 o5_29) 6 o6_30) 7 o7_31) 8 o8_32) 9 o9_33) 10 o10_34) 12 o12_35) 13 o13_36) 14 o14_37) 15 o15_38) 16 o16_39) 17 o17_40) 18 o18_41) 0 oa_42) 1 ob_43) 33 o33_44) 34 o34_45))) (va_runV (As := [.long x_85, .long x_91]) (rest := []) ⟨hx, hb, hml, hown, htb⟩ (c_X7_is l dC dI k q (sA (sI (sJ (sJ (sA (sA (sA (sI (sI (sI (sI (sA (sA (sA (sA (sA (sA (sA z 4 o4_28) 5 o5_29) 6 o6_30) 7 o7_31) 8 o8_32) 9 o9_33) 10 o10_34) 12 o12_35) 13 o13_36) 14 o14_37) 15 o15_38) 16 o16_39) 17 o17_40) 18 o18_41) 0 oa_42) 1 ob_43) 33 o33_44) 34 o34_45) x_85 x_91 _ (show (-4611686018427387904 < x_85.toInt ∧ x_85.toInt < 4611686018427387904) by omega) (show (-4611686018427387904 < x_91.toInt ∧ x_91.toInt < 4611686018427387904) by omega) (show x_91.toInt ≠ 0 by omega)) (cwV 2 htb (gzV wmt4_129 wmt4_131 wmp3_0 wmt1_8 wmt4_132) rfl rfl rfl (by decide +kernel) ⟨Nat.le_of_ble_eq_true rfl, Nat.le_of_ble_eq_true rfl⟩) (zpA_V (ci := 7) (q0 := 0) hK hP (hDa _) rfl rfl) rfl rfl hl.1 rfl (lv_room (Nat.le_of_ble_eq_true rfl)) dX7_has_93 ⟨Nat.le_of_ble_eq_true rfl, Nat.le_of_ble_eq_true rfl⟩) (hDa _) hS hA (fun u_93 H locs w_94 hP _ hS => ?_)
                    obtain ⟨oa_95, ob_96⟩ := u_93
                    have hP : va_P (dC, dI) vwCl (zM k q (sJ (sJ (sA (sI (sA (sA (sA (sI (sI (sI (sI (sA (sA (sA (sA (sA (sA (sA z 4 o4_28) 5 o5_29) 6 o6_30) 7 o7_31) 8 o8_32) 9 o9_33) 10 o10_34) 12 o12_35) 13 o13_36) 14 o14_37) 15 o15_38) 16 o16_39) 17 o17_40) 18 o18_41) 33 o33_44) 34 o34_45) 0 oa_95) 1 ob_96)) H := hP
                    obtain ⟨h_97, h_98, h_99, h_100, h_101, h_102⟩ := w_94
                    replace h_97 : 1 ≤ ob_96.toInt ∧ ob_96.toInt ≤ (x_91.toInt.natAbs : Int) := h_97
                    replace h_98 : (oa_95.toInt.natAbs : Int) ≤ (x_85.toInt.natAbs : Int) := h_98
                    replace h_99 : (0 ≤ x_85.toInt → 0 < x_91.toInt → 0 ≤ oa_95.toInt) ∧ (0 < x_85.toInt → 0 < x_91.toInt → 1 ≤ oa_95.toInt) := h_99
                    replace h_100 : ob_96.toInt = ((x_91.toInt.natAbs / Nat.gcd x_85.toInt.natAbs x_91.toInt.natAbs : Nat) : Int) := h_100
                    replace h_101 : oa_95.toInt = x_85.toInt.tdiv (if x_91.toInt < 0 then -(Nat.gcd x_85.toInt.natAbs x_91.toInt.natAbs : Int) else (Nat.gcd x_85.toInt.natAbs x_91.toInt.natAbs : Int)) := h_101
                    replace h_102 : Hd (0 ≤ x_85.toInt → 0 < x_91.toInt → oa_95.toInt = frT x_85.toInt x_91.toInt 0 ∧ ob_96.toInt = frT x_85.toInt x_91.toInt 1) := h_102
                    refine lv_aload_n hx hb dX7_has_96 rfl (lv_at hl 1 rfl) ?_
                    refine lv_iload_n hx hb dX7_has_97 rfl (lv_at hl 4 rfl) ?_
                    refine zcA_l (w := (zM k q (sJ (sJ (sA (sI (sA (sA (sA (sI (sI (sI (sI (sA (sA (sA (sA (sA (sA (sA z 4 o4_28) 5 o5_29) 6 o6_30) 7 o7_31) 8 o8_32) 9 o9_33) 10 o10_34) 12 o12_35) 13 o13_36) 14 o14_37) 15 o15_38) 16 o16_39) 17 o17_40) 18 o18_41) 33 o33_44) 34 o34_45) 0 oa_95) 1 ob_96))) (va_runV (As := [.int w]) (rest := []) ⟨hx, hb, hml, hown, htb⟩ (c_X7_part l dC dI k q (sJ (sJ (sA (sI (sA (sA (sA (sI (sI (sI (sI (sA (sA (sA (sA (sA (sA (sA z 4 o4_28) 5 o5_29) 6 o6_30) 7 o7_31) 8 o8_32) 9 o9_33) 10 o10_34) 12 o12_35) 13 o13_36) 14 o14_37) 15 o15_38) 16 o16_39) 17 o17_40) 18 o18_41) 33 o33_44) 34 o34_45) 0 oa_95) 1 ob_96) w _ ) (cwV 1 htb (gzV wmt4_133 wmt4_135 wmp3_1 wmt1_8 wmt4_136) rfl rfl rfl (by decide +kernel) ⟨Nat.le_of_ble_eq_true rfl, Nat.le_of_ble_eq_true rfl⟩) (zpA_V (ci := 7) (q0 := 0) hK hP (hDa _) rfl rfl) rfl rfl hl.1 rfl (lv_room (Nat.le_of_ble_eq_true rfl)) dX7_has_98 ⟨Nat.le_of_ble_eq_true rfl, Nat.le_of_ble_eq_true rfl⟩) (hDa _) hS hA (fun r_104 u_105 H locs w_106 hP _ hS => ?_)
                    have h_107 := w_106
                    replace h_107 : (w.toInt = 0 → r_104 = oa_95) ∧ (¬ w.toInt = 0 → r_104 = ob_96) := h_107
                    exact W.lret (v := r_104) hx hb hr (fun t ht hW => ⟨⟨r_104, (o4_28, o5_29, o6_30, o7_31, o8_32, o9_33, o10_34, o12_35, o13_36, o14_37, o15_38, o16_39, o17_40, o18_41, oa_95, ob_96, o33_44, o34_45), rfl, (show (MD (FR (z.2.2.1 2) (z.2.2.1 3)) o4_28 o5_29 o6_30 o7_31 o8_32 o9_33 o10_34) from hI.2.2.2.2.2), ⟨by rw [ht]; exact hP, hDa _⟩⟩, hS.F ht⟩) hS.2.2 dX7_has_101
                  · skip
                    have hc_83 := zb_ne rfl (show (0 : Int32).toInt = 0 by decide) c_83
                    refine lv_iload hx hb dX7_has_60 (lv_at hl 0 rfl) ?_
                    refine zc0_l (w := (zM k q (sA (sI (sJ (sJ (sA (sA (sA (sI (sI (sI (sI (sA (sA (sA (sA (sA (sA (sA z 4 o4_28) 5 o5_29) 6 o6_30) 7 o7_31) 8 o8_32) 9 o9_33) 10 o10_34) 12 o12_35) 13 o13_36) 14 o14_37) 15 o15_38) 16 o16_39) 17 o17_40) 18 o18_41) 0 oa_42) 1 ob_43) 33 o33_44) 34 o34_45))) (va_runS (As := [.int r_25]) (rest := []) ⟨hx, hb, hml, hown, htb⟩ (c_X7_told l dC dI k r_25 _ ) (va_cwS 1 htb (gzS wmt4_116 wmt4_117 wmt1_8 wmt4_118) rfl rfl rfl (by decide +kernel) ⟨Nat.le_of_ble_eq_true rfl, Nat.le_of_ble_eq_true rfl⟩) (zp0_S hK) rfl rfl hl.1 rfl (lv_room (Nat.le_of_ble_eq_true rfl)) dX7_has_62 ⟨Nat.le_of_ble_eq_true rfl, Nat.le_of_ble_eq_true rfl⟩) hP hS hA (fun r_109 u_110 H locs w_111 hP hS => ?_)
                    have h_112 := w_111
                    replace h_112 : r_109.toInt = tl r_25 := h_112
                    exact W.lret (v := r_109) hx hb hr (fun t ht hW => ⟨⟨r_109, (o4_28, o5_29, o6_30, o7_31, o8_32, o9_33, o10_34, o12_35, o13_36, o14_37, o15_38, o16_39, o17_40, o18_41, oa_42, ob_43, o33_44, o34_45), rfl, (show (MD (FR (z.2.2.1 2) (z.2.2.1 3)) o4_28 o5_29 o6_30 o7_31 o8_32 o9_33 o10_34) from hI.2.2.2.2.2), ⟨by rw [ht]; exact hP, hDa _⟩⟩, hS.F ht⟩) hS.2.2 dX7_has_65
                · skip
                  have hc_82 := zb_ne rfl (show (0 : Int32).toInt = 0 by decide) c_82
                  refine lv_lconst (v := 1) hx hb dX7_has_53 (by decide) ?_
                  exact W.lret (v := 1) hx hb hr (fun t ht hW => ⟨⟨1, (o4_28, o5_29, o6_30, o7_31, o8_32, o9_33, o10_34, o12_35, o13_36, o14_37, o15_38, o16_39, o17_40, o18_41, oa_42, ob_43, o33_44, o34_45), rfl, (show (MD (FR (z.2.2.1 2) (z.2.2.1 3)) o4_28 o5_29 o6_30 o7_31 o8_32 o9_33 o10_34) from hI.2.2.2.2.2), ⟨by rw [ht]; exact hP, hDa _⟩⟩, hS.F ht⟩) hS.2.2 dX7_has_54
            · skip
              exact absurd c_24 (by decide)
          · skip
            replace e_23 : r_17 = 0 := e_23
            subst e_23
            replace h_22 : ¬ ((0 : Int32).toInt ≤ w.toInt ∧ w.toInt ≤ (1 : Int32).toInt) := h_22
            rw [show (0 : Int32).toInt = 0 by decide, show (1 : Int32).toInt = 1 by decide] at h_22
            refine lv_if_ne (tgt := 32) hx hb dX7_has_23 (by decide) (fun c_114 => ?_) (fun c_114 => ?_)
            · skip
              exact absurd c_114 (by decide)
            · skip
              refine lv_bipush (v := (-2)) hx hb dX7_has_26 (by decide) ?_
              refine zc0_l (w := (zM k q z)) (va_runS (As := [.int (-2)]) (rest := []) ⟨hx, hb, hml, hown, htb⟩ (c_X7_told l dC dI k (-2) _ ) (va_cwS 1 htb (gzS wmt4_116 wmt4_117 wmt1_8 wmt4_118) rfl rfl rfl (by decide +kernel) ⟨Nat.le_of_ble_eq_true rfl, Nat.le_of_ble_eq_true rfl⟩) (zp0_S hK) rfl rfl hl.1 rfl (lv_room (Nat.le_of_ble_eq_true rfl)) dX7_has_28 ⟨Nat.le_of_ble_eq_true rfl, Nat.le_of_ble_eq_true rfl⟩) hP hS hA (fun r_115 u_116 H locs w_117 hP hS => ?_)
              have h_118 := w_117
              replace h_118 : r_115.toInt = tl ((-2) : Int32) := h_118
              exact W.lret (v := r_115) hx hb hr (fun t ht hW => ⟨⟨r_115, (z.2.2.1 4, z.2.2.1 5, z.2.2.1 6, z.2.2.1 7, z.2.2.1 8, z.2.2.1 9, z.2.2.1 10, z.1 12, z.1 13, z.1 14, z.1 15, z.2.2.1 16, z.2.2.1 17, z.2.2.1 18, z.2.1 0, z.2.1 1, z.1 33, z.2.2.1 34), rfl, (show (MD (FR (z.2.2.1 2) (z.2.2.1 3)) (z.2.2.1 4) (z.2.2.1 5) (z.2.2.1 6) (z.2.2.1 7) (z.2.2.1 8) (z.2.2.1 9) (z.2.2.1 10)) from hI.2.2.2.2.2), ⟨by rw [ht]; exact hP, hDa _⟩⟩, hS.F ht⟩) hS.2.2 dX7_has_31
      · skip
        replace e_15 : r_9 = 0 := e_15
        subst e_15
        replace h_14 : ¬ ((1 : Int32).toInt ≤ n.toInt ∧ n.toInt ≤ (99 : Int32).toInt) := h_14
        rw [show (1 : Int32).toInt = 1 by decide, show (99 : Int32).toInt = 99 by decide] at h_14
        refine lv_if_eq (tgt := 26) hx hb dX7_has_14 (by decide) (fun c_120 => ?_) (fun c_120 => ?_)
        · skip
          refine lv_bipush (v := (-2)) hx hb dX7_has_26 (by decide) ?_
          refine zc0_l (w := (zM k q z)) (va_runS (As := [.int (-2)]) (rest := []) ⟨hx, hb, hml, hown, htb⟩ (c_X7_told l dC dI k (-2) _ ) (va_cwS 1 htb (gzS wmt4_116 wmt4_117 wmt1_8 wmt4_118) rfl rfl rfl (by decide +kernel) ⟨Nat.le_of_ble_eq_true rfl, Nat.le_of_ble_eq_true rfl⟩) (zp0_S hK) rfl rfl hl.1 rfl (lv_room (Nat.le_of_ble_eq_true rfl)) dX7_has_28 ⟨Nat.le_of_ble_eq_true rfl, Nat.le_of_ble_eq_true rfl⟩) hP hS hA (fun r_121 u_122 H locs w_123 hP hS => ?_)
          have h_124 := w_123
          replace h_124 : r_121.toInt = tl ((-2) : Int32) := h_124
          exact W.lret (v := r_121) hx hb hr (fun t ht hW => ⟨⟨r_121, (z.2.2.1 4, z.2.2.1 5, z.2.2.1 6, z.2.2.1 7, z.2.2.1 8, z.2.2.1 9, z.2.2.1 10, z.1 12, z.1 13, z.1 14, z.1 15, z.2.2.1 16, z.2.2.1 17, z.2.2.1 18, z.2.1 0, z.2.1 1, z.1 33, z.2.2.1 34), rfl, (show (MD (FR (z.2.2.1 2) (z.2.2.1 3)) (z.2.2.1 4) (z.2.2.1 5) (z.2.2.1 6) (z.2.2.1 7) (z.2.2.1 8) (z.2.2.1 9) (z.2.2.1 10)) from hI.2.2.2.2.2), ⟨by rw [ht]; exact hP, hDa _⟩⟩, hS.F ht⟩) hS.2.2 dX7_has_31
        · skip
          exact absurd (by decide) c_120
  · skip
    replace e_7 : r_1 = 0 := e_7
    subst e_7
    replace h_6 : ¬ (0 ≤ pe.toInt ∧ pe.toInt < 24) := h_6
    refine lv_if_eq (tgt := 26) hx hb dX7_has_4 (by decide) (fun c_126 => ?_) (fun c_126 => ?_)
    · skip
      refine lv_bipush (v := (-2)) hx hb dX7_has_26 (by decide) ?_
      refine zc0_l (w := (zM k q z)) (va_runS (As := [.int (-2)]) (rest := []) ⟨hx, hb, hml, hown, htb⟩ (c_X7_told l dC dI k (-2) _ ) (va_cwS 1 htb (gzS wmt4_116 wmt4_117 wmt1_8 wmt4_118) rfl rfl rfl (by decide +kernel) ⟨Nat.le_of_ble_eq_true rfl, Nat.le_of_ble_eq_true rfl⟩) (zp0_S hK) rfl rfl hl.1 rfl (lv_room (Nat.le_of_ble_eq_true rfl)) dX7_has_28 ⟨Nat.le_of_ble_eq_true rfl, Nat.le_of_ble_eq_true rfl⟩) hP hS hA (fun r_127 u_128 H locs w_129 hP hS => ?_)
      have h_130 := w_129
      replace h_130 : r_127.toInt = tl ((-2) : Int32) := h_130
      exact W.lret (v := r_127) hx hb hr (fun t ht hW => ⟨⟨r_127, (z.2.2.1 4, z.2.2.1 5, z.2.2.1 6, z.2.2.1 7, z.2.2.1 8, z.2.2.1 9, z.2.2.1 10, z.1 12, z.1 13, z.1 14, z.1 15, z.2.2.1 16, z.2.2.1 17, z.2.2.1 18, z.2.1 0, z.2.1 1, z.1 33, z.2.2.1 34), rfl, (show (MD (FR (z.2.2.1 2) (z.2.2.1 3)) (z.2.2.1 4) (z.2.2.1 5) (z.2.2.1 6) (z.2.2.1 7) (z.2.2.1 8) (z.2.2.1 9) (z.2.2.1 10)) from hI.2.2.2.2.2), ⟨by rw [ht]; exact hP, hDa _⟩⟩, hS.F ht⟩) hS.2.2 dX7_has_31
    · skip
      exact absurd (by decide) c_126
