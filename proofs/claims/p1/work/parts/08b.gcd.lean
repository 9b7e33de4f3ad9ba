set_option maxHeartbeats 4000000 in
set_option maxRecDepth 100000 in
theorem c_X7_divisor (l : Launch) (dC : Nat → ClassId) (dI : Nat → Nat → Nat) (k : Nat → ClassId) (T : List (ClassId × FieldType)) (a : Nat) (b : Nat) (sz : Nat) (ha : a < 2 ^ 62) (hb2 : b < 2 ^ 62) : Met l yX7_divisor (wz yX7_divisor cX7_divisor 10 (some .long)) ({ frames := 0, cells := 0, slots := 0, locals := 0 }) (va_Pc [.long (lN a), .long (lN b)] (zPre dC dI k T [] sz)) (va_Ql (fun (r : Int64) (u : Unit) => r = lN (Nat.gcd a b)) (fun u t => zPost dC dI (va_A [] sz) [] t) (va_A [] sz)) 0 0 (va_A [] sz) := by
  refine Met.ofW (cc := cX7_divisor) (maxL := 10) (ret := (some .long)) (by decide) rfl ?_
  intro p e s m args below meth c s₁ B hml hv
  obtain ⟨rfl, hsz, hP, hK, hD0⟩ := hv
  have hx := B.exec
  have hb := B.bytes
  have hr := B.returns
  have hts : ∀ w ∈ zw, w.before _ s = true := fun w h => atoms_spec (ws := (wz yX7_divisor cX7_divisor 10 (some .long))) B.pre w (List.mem_cons_of_mem _ h)
  have hown : s.vm.findClass RX7 = some m.cls := findClass_of_methodNamed B.named
  have hlocks := B.notSynchronized
  subst hsz
  have hD := hD0.self (sz := s.heap.size)
  generalize hAe : va_A [] s.heap.size = A at hD ⊢
  have hA : ∀ q : Nat, s.heap.size ≤ q → A q := fun q h => by rw [← hAe]; exact Or.inr h
  have hl := lv_entry ([.long (lN a), .long (lN b)]) (n := 10) (Nat.le_of_ble_eq_true rfl)
  rw [lg_entry_eq]
  generalize (lg_sl ([.long (lN a), .long (lN b)]) ++ List.replicate (10 - (lg_sl ([.long (lN a), .long (lN b)])).length) Slot.unset).toArray = ls at hl ⊢
  have hl : lv_has ls 10 [(0, .long (lN a)), (2, .long (lN b))] := hl
  refine z_start (w := []) hP hD (fun H locs hP hD hS => ?_)
  refine lv_lload_n hx hb dX7_divisor_0 rfl (lv_at hl 0 rfl) ?_
  refine lv_lconst (v := 0) hx hb dX7_divisor_1 (by decide) ?_
  refine z_lcmp hx hb dX7_divisor_2 ?_
  refine lv_if_ge (tgt := 11) hx hb dX7_divisor_3 (by decide) (fun c_1 => ?_) (fun c_1 => ?_)
  · skip
    replace c_1 := (lg_cmp_ge (lN a) 0).mp c_1
    refine lv_lload_n hx hb dX7_divisor_11 rfl (lv_at hl 0 rfl) ?_
    refine lv_lstore (lv' := [(4, .long (lN a)), (0, .long (lN a)), (2, .long (lN b))]) hx hb dX7_divisor_12 hl (by decide) rfl (fun ls hl => ?_)
    refine lv_lload_n hx hb dX7_divisor_14 rfl (lv_at hl 2 rfl) ?_
    refine lv_lconst (v := 0) hx hb dX7_divisor_15 (by decide) ?_
    refine z_lcmp hx hb dX7_divisor_16 ?_
    refine lv_if_ge (tgt := 25) hx hb dX7_divisor_17 (by decide) (fun c_2 => ?_) (fun c_2 => ?_)
    · skip
      replace c_2 := (lg_cmp_ge (lN b) 0).mp c_2
      refine lv_lload_n hx hb dX7_divisor_25 rfl (lv_at hl 2 rfl) ?_
      refine lv_lstore (lv' := [(6, .long (lN b)), (4, .long (lN a)), (0, .long (lN a)), (2, .long (lN b))]) hx hb dX7_divisor_26 hl (by decide) rfl (fun ls hl => ?_)
      obtain ⟨x, ex⟩ : ∃ x : Nat, x = a := ⟨_, rfl⟩
      obtain ⟨y, ey⟩ : ∃ y : Nat, y = b := ⟨_, rfl⟩
      have hg : Nat.gcd x y = Nat.gcd a b := by rw [ex, ey]
      have hxb : x < 2 ^ 62 := by rw [ex]; exact ha
      have hyb : y < 2 ^ 62 := by rw [ey]; exact hb2
      replace hl : lv_has ls 10 [(6, .long (lN y)), (4, .long (lN x)), (0, .long (lN a)), (2, .long (lN b))] := by rw [ex, ey]; exact hl
      clear ex ey
      refine z_cut hP hD hS hl ?_
      clear hl
      intro H locs ls hP hD hS hl
      induction y using Nat.strongRecOn generalizing x H locs ls with
      | _ y ih =>
        refine lv_lload hx hb dX7_divisor_28 (lv_at hl 0 rfl) ?_
        refine lv_lconst (v := 0) hx hb dX7_divisor_30 (by decide) ?_
        refine z_lcmp hx hb dX7_divisor_31 ?_
        refine lv_if_eq (tgt := 53) hx hb dX7_divisor_32 (by decide) (fun c_3 => ?_) (fun c_3 => ?_)
        · skip
          replace c_3 := (lg_cmp_eq (lN y) 0).mp c_3
          refine lv_lload hx hb dX7_divisor_53 (lv_at hl 1 rfl) ?_
          exact W.lret (v := (lN x)) hx hb hr (fun t ht hW => ⟨⟨(lN x), (), rfl, (by have hy0 : y = 0 := (z_lz hyb).mp (by assumption); rw [hy0, Nat.gcd_zero_right] at hg; rw [hg]), ⟨by rw [ht]; exact hP, hD⟩⟩, hS.F ht⟩) hS.2.2 dX7_divisor_55
        · skip
          replace c_3 := fun h => c_3 ((lg_cmp_eq (lN y) 0).mpr h)
          have hpos : 0 < y := Nat.pos_of_ne_zero (fun q => c_3 ((z_lz hyb).mpr q))
          refine lv_lload hx hb dX7_divisor_35 (lv_at hl 1 rfl) ?_
          refine lv_lload hx hb dX7_divisor_37 (lv_at hl 0 rfl) ?_
          refine lv_lrem hx hb dX7_divisor_39 (fun q => absurd ((z_lz hyb).mp q) (by omega)) ?_
          refine z_top (v2 := .long (lN (x % y))) (congrArg Value.long (z_lr hxb hyb hpos)) ?_
          refine lv_lstore (lv' := [(8, .long (lN (x % y))), (6, .long (lN y)), (4, .long (lN x)), (0, .long (lN a)), (2, .long (lN b))]) hx hb dX7_divisor_40 hl (by decide) rfl (fun ls hl => ?_)
          refine lv_lload hx hb dX7_divisor_42 (lv_at hl 1 rfl) ?_
          refine lv_lstore (lv' := [(4, .long (lN y)), (8, .long (lN (x % y))), (6, .long (lN y)), (0, .long (lN a)), (2, .long (lN b))]) hx hb dX7_divisor_44 hl (by decide) rfl (fun ls hl => ?_)
          refine lv_lload hx hb dX7_divisor_46 (lv_at hl 1 rfl) ?_
          refine lv_lstore (lv' := [(6, .long (lN (x % y))), (4, .long (lN y)), (8, .long (lN (x % y))), (0, .long (lN a)), (2, .long (lN b))]) hx hb dX7_divisor_48 hl (by decide) rfl (fun ls hl => ?_)
          refine lv_goto (tgt := 28) hx hb dX7_divisor_50 (by decide) ?_
          exact ih (x % y) (Nat.mod_lt _ hpos) y (by rw [z_gs, hg]) hyb (Nat.lt_of_le_of_lt (Nat.le_of_lt (Nat.mod_lt _ hpos)) hyb) H locs ls hP hS (lv_sub hl [0, 1, 3, 4] rfl)
    · skip
      exact absurd ((lg_cmp_ge _ _).mpr (z_l0 (by assumption))) c_2
  · skip
    exact absurd ((lg_cmp_ge _ _).mpr (z_l0 (by assumption))) c_1
set_option maxHeartbeats 4000000 in
set_option maxRecDepth 100000 in
theorem c_X6_commonDivisor (l : Launch) (dC : Nat → ClassId) (dI : Nat → Nat → Nat) (k : Nat → ClassId) (T : List (ClassId × FieldType)) (a : Nat) (b : Nat) (sz : Nat) (ha : a < 2 ^ 62) (hb2 : b < 2 ^ 62) (hb3 : b ≤ 100) : Met l yX6_commonDivisor (wz yX6_commonDivisor cX6_commonDivisor 11 (some .long)) ({ frames := 1, cells := 0, slots := 0, locals := 13 }) (va_Pc [.long (lN a), .long (lN b)] (zPre dC dI k T [] sz)) (va_Ql (fun (r : Int64) (u : Unit) => r = lN (Nat.gcd a b)) (fun u t => zPost dC dI (va_A [] sz) [] t) (va_A [] sz)) 0 0 (va_A [] sz) := by
  refine Met.ofW (cc := cX6_commonDivisor) (maxL := 11) (ret := (some .long)) (by decide) rfl ?_
  intro p e s m args below meth c s₁ B hml hv
  obtain ⟨rfl, hsz, hP, hK, hD0⟩ := hv
  have hx := B.exec
  have hb := B.bytes
  have hr := B.returns
  have hts : ∀ w ∈ zw, w.before _ s = true := fun w h => atoms_spec (ws := (wz yX6_commonDivisor cX6_commonDivisor 11 (some .long))) B.pre w (List.mem_cons_of_mem _ h)
  have hown : s.vm.findClass RX6 = some m.cls := findClass_of_methodNamed B.named
  have hlocks := B.notSynchronized
  subst hsz
  have hD := hD0.self (sz := s.heap.size)
  generalize hAe : va_A [] s.heap.size = A at hD ⊢
  have hA : ∀ q : Nat, s.heap.size ≤ q → A q := fun q h => by rw [← hAe]; exact Or.inr h
  have hl := lv_entry ([.long (lN a), .long (lN b)]) (n := 11) (Nat.le_of_ble_eq_true rfl)
  rw [lg_entry_eq]
  generalize (lg_sl ([.long (lN a), .long (lN b)]) ++ List.replicate (11 - (lg_sl ([.long (lN a), .long (lN b)])).length) Slot.unset).toArray = ls at hl ⊢
  have hl : lv_has ls 11 [(0, .long (lN a)), (2, .long (lN b))] := hl
  refine z_start (w := []) hP hD (fun H locs hP hD hS => ?_)
  refine lv_lload_n hx hb dX6_commonDivisor_0 rfl (lv_at hl 0 rfl) ?_
  refine va_mabs_long hx hb (hml.trans hl.1.symm) hown (hts _ wmt2_11) (hts _ wmt2_12) (hts _ wmt1_10) (hts _ wmt2_13) (Nat.le_of_ble_eq_true rfl) (Nat.le_of_ble_eq_true rfl) (Nat.le_of_ble_eq_true rfl) (Nat.le_of_ble_eq_true rfl) dX6_commonDivisor_1 ?_
  refine z_top (v2 := .long (lN a)) (congrArg Value.long (z_labs (by assumption))) ?_
  refine lv_lstore (lv' := [(4, .long (lN a)), (0, .long (lN a)), (2, .long (lN b))]) hx hb dX6_commonDivisor_4 hl (by decide) rfl (fun ls hl => ?_)
  refine lv_lload_n hx hb dX6_commonDivisor_6 rfl (lv_at hl 2 rfl) ?_
  refine va_mabs_long hx hb (hml.trans hl.1.symm) hown (hts _ wmt2_11) (hts _ wmt2_12) (hts _ wmt1_10) (hts _ wmt2_13) (Nat.le_of_ble_eq_true rfl) (Nat.le_of_ble_eq_true rfl) (Nat.le_of_ble_eq_true rfl) (Nat.le_of_ble_eq_true rfl) dX6_commonDivisor_7 ?_
  refine z_top (v2 := .long (lN b)) (congrArg Value.long (z_labs (by assumption))) ?_
  refine lv_lstore (lv' := [(6, .long (lN b)), (4, .long (lN a)), (0, .long (lN a)), (2, .long (lN b))]) hx hb dX6_commonDivisor_10 hl (by decide) rfl (fun ls hl => ?_)
  refine lv_iconst (v := 0) hx hb dX6_commonDivisor_12 (by decide) ?_
  refine lv_istore (lv' := [(8, .int 0), (6, .long (lN b)), (4, .long (lN a)), (0, .long (lN a)), (2, .long (lN b))]) hx hb dX6_commonDivisor_13 hl (by decide) rfl (fun ls hl => ?_)
  obtain ⟨x, ex⟩ : ∃ x : Nat, x = a := ⟨_, rfl⟩
  obtain ⟨y, ey⟩ : ∃ y : Nat, y = b := ⟨_, rfl⟩
  obtain ⟨sc, esc⟩ : ∃ sc : Int32, sc = 0 := ⟨_, rfl⟩
  have hg : Nat.gcd x y = Nat.gcd a b := by rw [ex, ey]
  have hxb : x < 2 ^ 62 := by rw [ex]; exact ha
  have hyb : y < 2 ^ 62 := by rw [ey]; exact hb2
  have hsc : ∃ j : Nat, sc = nI j ∧ y + j ≤ 100 := ⟨0, esc, by omega⟩
  replace hl : lv_has ls 11 [(8, .int sc), (6, .long (lN y)), (4, .long (lN x)), (0, .long (lN a)), (2, .long (lN b))] := by rw [ex, ey, esc]; exact hl
  clear ex ey esc
  refine z_cut hP hD hS hl ?_
  clear hl
  intro H locs ls hP hD hS hl
  induction y using Nat.strongRecOn generalizing x sc H locs ls with
  | _ y ih =>
    obtain ⟨j, hj, hyj⟩ := hsc
    refine lv_iload hx hb dX6_commonDivisor_15 (lv_at hl 0 rfl) ?_
    refine lv_sipush (v := 200) hx hb dX6_commonDivisor_17 (by decide) ?_
    refine lv_icmp_ge (tgt := 51) hx hb dX6_commonDivisor_20 (by decide) (fun c_1 => ?_) (fun c_1 => ?_)
    · skip
      have c_1' : ¬ sc ≤ 199 := (z_ge_pred (by decide)).mp c_1
      exact absurd (show (200 : Int32) ≤ nI j by rw [← hj]; exact c_1) (nI_ge (a := j) (b := 200) (by omega) (by decide))
    · skip
      have c_1' : sc ≤ 199 := Decidable.not_not.mp (fun h => c_1 ((z_ge_pred (by decide)).mpr h))
      refine lv_lload hx hb dX6_commonDivisor_23 (lv_at hl 1 rfl) ?_
      refine lv_lconst (v := 0) hx hb dX6_commonDivisor_25 (by decide) ?_
      refine z_lcmp hx hb dX6_commonDivisor_26 ?_
      refine lv_if_eq (tgt := 51) hx hb dX6_commonDivisor_27 (by decide) (fun c_2 => ?_) (fun c_2 => ?_)
      · skip
        replace c_2 := (lg_cmp_eq (lN y) 0).mp c_2
        refine lv_lload hx hb dX6_commonDivisor_51 (lv_at hl 2 rfl) ?_
        exact W.lret (v := (lN x)) hx hb hr (fun t ht hW => ⟨⟨(lN x), (), rfl, (by have hy0 : y = 0 := (z_lz hyb).mp (by assumption); rw [hy0, Nat.gcd_zero_right] at hg; rw [hg]), ⟨by rw [ht]; exact hP, hD⟩⟩, hS.F ht⟩) hS.2.2 dX6_commonDivisor_53
      · skip
        replace c_2 := fun h => c_2 ((lg_cmp_eq (lN y) 0).mpr h)
        have hpos : 0 < y := Nat.pos_of_ne_zero (fun q => c_2 ((z_lz hyb).mpr q))
        refine lv_lload hx hb dX6_commonDivisor_30 (lv_at hl 2 rfl) ?_
        refine lv_lload hx hb dX6_commonDivisor_32 (lv_at hl 1 rfl) ?_
        refine lv_lrem hx hb dX6_commonDivisor_34 (fun q => absurd ((z_lz hyb).mp q) (by omega)) ?_
        refine z_top (v2 := .long (lN (x % y))) (congrArg Value.long (z_lr hxb hyb hpos)) ?_
        refine lv_lstore (lv' := [(9, .long (lN (x % y))), (8, .int sc), (6, .long (lN y)), (4, .long (lN x)), (0, .long (lN a)), (2, .long (lN b))]) hx hb dX6_commonDivisor_35 hl (by decide) rfl (fun ls hl => ?_)
        refine lv_lload hx hb dX6_commonDivisor_37 (lv_at hl 2 rfl) ?_
        refine lv_lstore (lv' := [(4, .long (lN y)), (9, .long (lN (x % y))), (8, .int sc), (6, .long (lN y)), (0, .long (lN a)), (2, .long (lN b))]) hx hb dX6_commonDivisor_39 hl (by decide) rfl (fun ls hl => ?_)
        refine lv_lload hx hb dX6_commonDivisor_41 (lv_at hl 1 rfl) ?_
        refine lv_lstore (lv' := [(6, .long (lN (x % y))), (4, .long (lN y)), (9, .long (lN (x % y))), (8, .int sc), (0, .long (lN a)), (2, .long (lN b))]) hx hb dX6_commonDivisor_43 hl (by decide) rfl (fun ls hl => ?_)
        obtain ⟨sc2, e_st⟩ : ∃ z : Int32, z = sc + 1 := ⟨_, rfl⟩
        refine lv_iinc (v := sc2) (lv' := [(8, .int sc2), (6, .long (lN (x % y))), (4, .long (lN y)), (9, .long (lN (x % y))), (0, .long (lN a)), (2, .long (lN b))]) hx hb dX6_commonDivisor_45 hl (k := 3) rfl (by rw [e_st]; rfl) (by decide) rfl (fun ls hl => ?_)
        refine lv_goto (tgt := 15) hx hb dX6_commonDivisor_48 (by decide) ?_
        exact ih (x % y) (Nat.mod_lt _ hpos) y sc2 (by rw [z_gs, hg]) hyb (Nat.lt_of_le_of_lt (Nat.le_of_lt (Nat.mod_lt _ hpos)) hyb) (by have := Nat.mod_lt x hpos; exact ⟨j + 1, by rw [e_st, hj]; exact nI_1 j, by omega⟩) H locs ls hP hS (lv_sub hl [0, 1, 2, 4, 5] rfl)
