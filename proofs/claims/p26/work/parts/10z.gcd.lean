set_option maxHeartbeats 4000000 in
set_option maxRecDepth 100000 in
theorem c_X6_commonDivisor_g (l : Launch) (dC : Nat → ClassId) (dI : Nat → Nat → Nat) (k : Nat → ClassId) (a : Int64) (b : Int64) (sz : Nat) (h1 : (-4611686018427387904 < a.toInt ∧ a.toInt < 4611686018427387904)) (h2 : (-4611686018427387904 < b.toInt ∧ b.toInt < 4611686018427387904)) : Met l yX6_commonDivisor (wz yX6_commonDivisor cX6_commonDivisor 11 (some .long)) ({ frames := 1, cells := 0, slots := 0, locals := 13 }) (va_Pc [.long a, .long b] (zPre dC dI k (zTX k) [] sz)) (va_Ql (fun (r : Int64) (u : Unit) => (r.toInt = (Nat.gcd a.toInt.natAbs b.toInt.natAbs : Int))) (fun u t => zPost dC dI (va_A [] sz) [] t) (va_A [] sz)) 0 0 (va_A [] sz) := by
  refine Met.ofW (cc := cX6_commonDivisor) (maxL := 11) (ret := (some .long)) (by decide) rfl ?_
  intro p e s m args below meth c s₁ B hml hv
  obtain ⟨rfl, hsz, hP, hK, hD0⟩ := hv
  have hx := B.exec
  have hb := B.bytes
  have hr := B.returns
  have hts := atoms_spec (ws := wz yX6_commonDivisor cX6_commonDivisor 11 (some .long)) B.pre
  have htb : ∀ w ∈ zw, w.before _ s = true := fun w h => hts w (List.mem_cons_of_mem _ h)
  have hown : s.vm.findClass RX6 = some m.cls := findClass_of_methodNamed B.named
  have hlocks := B.notSynchronized
  clear hts
  subst hsz
  have hD := hD0.self (sz := s.heap.size)
  generalize hAe : va_A [] s.heap.size = A at hD ⊢
  have hA : ∀ q : Nat, s.heap.size ≤ q → A q := fun q h => by rw [← hAe]; exact Or.inr h
  have hl := lv_entry ([.long a, .long b]) (n := 11) (Nat.le_of_ble_eq_true rfl)
  rw [lg_entry_eq]
  generalize (lg_sl ([.long a, .long b]) ++ List.replicate (11 - (lg_sl ([.long a, .long b])).length) Slot.unset).toArray = ls at hl ⊢
  have hl : lv_has ls 11 [(0, .long a), (2, .long b)] := hl
  refine z_start2 (A := A) (w := []) hP (fun H locs hP hS => ?_)
  clear hD0 hAe
  refine lv_lload_n hx hb dX6_commonDivisor_0 rfl (lv_at hl 0 rfl) ?_
  refine va_mabs_long hx hb (hml.trans hl.1.symm) hown (htb _ wmt2_11) (htb _ wmt2_12) (htb _ wmt1_10) (htb _ wmt2_13) (Nat.le_of_ble_eq_true rfl) (Nat.le_of_ble_eq_true rfl) (Nat.le_of_ble_eq_true rfl) (Nat.le_of_ble_eq_true rfl) dX6_commonDivisor_1 ?_
  refine lv_topl (fun x_1 ex_1 => ?_)
  have hab1 := z_labs2 ex_1 h1
  refine lv_lstore (lv' := [(4, .long x_1), (0, .long a), (2, .long b)]) hx hb dX6_commonDivisor_4 hl (by decide) rfl (fun ls hl => ?_)
  refine lv_lload_n hx hb dX6_commonDivisor_6 rfl (lv_at hl 2 rfl) ?_
  refine va_mabs_long hx hb (hml.trans hl.1.symm) hown (htb _ wmt2_11) (htb _ wmt2_12) (htb _ wmt1_10) (htb _ wmt2_13) (Nat.le_of_ble_eq_true rfl) (Nat.le_of_ble_eq_true rfl) (Nat.le_of_ble_eq_true rfl) (Nat.le_of_ble_eq_true rfl) dX6_commonDivisor_7 ?_
  refine lv_topl (fun x_2 ex_2 => ?_)
  have hab2 := z_labs2 ex_2 h2
  refine lv_lstore (lv' := [(6, .long x_2), (4, .long x_1), (0, .long a), (2, .long b)]) hx hb dX6_commonDivisor_10 hl (by decide) rfl (fun ls hl => ?_)
  refine lv_iconst (v := 0) hx hb dX6_commonDivisor_12 (by decide) ?_
  refine lv_istore (lv' := [(8, .int 0), (6, .long x_2), (4, .long x_1), (0, .long a), (2, .long b)]) hx hb dX6_commonDivisor_13 hl (by decide) rfl (fun ls hl => ?_)
  obtain ⟨bg, ebg⟩ : ∃ x : Int64, x_1 = x := ⟨_, rfl⟩
  obtain ⟨sm, esm⟩ : ∃ x : Int64, x_2 = x := ⟨_, rfl⟩
  obtain ⟨stp, estp⟩ : ∃ x : Int32, 0 = x := ⟨_, rfl⟩
  have hv15 : (0 ≤ stp.toInt ∧ stp.toInt ≤ 200) ∧ (CD a.toInt b.toInt bg.toInt sm.toInt stp.toInt) := by subst ebg esm estp; exact ⟨(by decide), (CD_0 hab1 hab2 h1 h2 (by decide))⟩
  replace hl : lv_has ls 11 [(8, .int stp), (6, .long sm), (4, .long bg), (0, .long a), (2, .long b)] := by subst ebg esm estp; exact hl
  clear ebg esm estp
  obtain ⟨mm15, hm15⟩ : ∃ mm : Nat, mm = (200 - stp.toInt).toNat := ⟨_, rfl⟩
  refine z_cut2 hP hS hl ?_
  clear hl hP
  intro H locs ls hP hS hl
  induction mm15 using Nat.strongRecOn generalizing bg sm stp H locs ls with
  | _ mm15 ih15 =>
    obtain ⟨hst, hcd⟩ := hv15
    refine lv_iload hx hb dX6_commonDivisor_15 (lv_at hl 0 rfl) ?_
    refine lv_sipush (v := 200) hx hb dX6_commonDivisor_17 (by decide) ?_
    refine lv_icmp_ge (tgt := 51) hx hb dX6_commonDivisor_20 (by decide) (fun c_3 => ?_) (fun c_3 => ?_)
    · skip
      have hc_3 := zb_le (show (200 : Int32).toInt = 200 by decide) rfl c_3
      refine lv_lload hx hb dX6_commonDivisor_51 (lv_at hl 2 rfl) ?_
      exact W.lret (v := bg) hx hb hr (fun t ht hW => ⟨⟨bg, (), rfl, (CD_end hcd (by omega)), ⟨by rw [ht]; exact hP, hD⟩⟩, hS.F ht⟩) hS.2.2 dX6_commonDivisor_53
    · skip
      have hc_3 := zb_nle (show (200 : Int32).toInt = 200 by decide) rfl c_3
      refine lv_lload hx hb dX6_commonDivisor_23 (lv_at hl 1 rfl) ?_
      refine lv_lconst (v := 0) hx hb dX6_commonDivisor_25 (by decide) ?_
      refine z_lcmp hx hb dX6_commonDivisor_26 ?_
      refine lv_if_eq (tgt := 51) hx hb dX6_commonDivisor_27 (by decide) (fun c_4 => ?_) (fun c_4 => ?_)
      · skip
        have hc_4 := zl_eq rfl (show (0 : Int64).toInt = 0 by decide) c_4
        refine lv_lload hx hb dX6_commonDivisor_51 (lv_at hl 2 rfl) ?_
        exact W.lret (v := bg) hx hb hr (fun t ht hW => ⟨⟨bg, (), rfl, (CD_end hcd (by omega)), ⟨by rw [ht]; exact hP, hD⟩⟩, hS.F ht⟩) hS.2.2 dX6_commonDivisor_53
      · skip
        have hc_4 := zl_ne rfl (show (0 : Int64).toInt = 0 by decide) c_4
        refine lv_lload hx hb dX6_commonDivisor_30 (lv_at hl 2 rfl) ?_
        refine lv_lload hx hb dX6_commonDivisor_32 (lv_at hl 1 rfl) ?_
        refine lv_lrem hx hb dX6_commonDivisor_34 (z_l0ne (by omega)) ?_
        refine lv_topl (fun x_5 ex_5 => ?_)
        have hrem : x_5.toInt = bg.toInt.tmod sm.toInt := by rw [ex_5]; exact Jvm.Kit.i64_rem bg sm
        refine lv_lstore (lv' := [(9, .long x_5), (8, .int stp), (6, .long sm), (4, .long bg), (0, .long a), (2, .long b)]) hx hb dX6_commonDivisor_35 hl (by decide) rfl (fun ls hl => ?_)
        refine lv_lload hx hb dX6_commonDivisor_37 (lv_at hl 2 rfl) ?_
        refine lv_lstore (lv' := [(4, .long sm), (9, .long x_5), (8, .int stp), (6, .long sm), (0, .long a), (2, .long b)]) hx hb dX6_commonDivisor_39 hl (by decide) rfl (fun ls hl => ?_)
        refine lv_lload hx hb dX6_commonDivisor_41 (lv_at hl 1 rfl) ?_
        refine lv_lstore (lv' := [(6, .long x_5), (4, .long sm), (9, .long x_5), (8, .int stp), (0, .long a), (2, .long b)]) hx hb dX6_commonDivisor_43 hl (by decide) rfl (fun ls hl => ?_)
        obtain ⟨x_6, ex_6⟩ : ∃ y : Int32, y = stp + 1 := ⟨_, rfl⟩
        have hx_6 : x_6.toInt = stp.toInt + 1 := z_add ex_6 rfl (show (1 : Int32).toInt = 1 by decide) (by omega)
        refine lv_iinc (v := x_6) (lv' := [(8, .int x_6), (6, .long x_5), (4, .long sm), (9, .long x_5), (0, .long a), (2, .long b)]) hx hb dX6_commonDivisor_45 hl (k := 3) rfl (by rw [ex_6]; rfl) (by decide) rfl (fun ls hl => ?_)
        refine lv_goto (tgt := 15) hx hb dX6_commonDivisor_48 (by decide) ?_
        exact ih15 ((200 - x_6.toInt).toNat) (by omega) sm x_5 x_6 ⟨(show 0 ≤ x_6.toInt ∧ x_6.toInt ≤ 200 by omega), (CD_step hcd hst.1 (by omega) hrem hx_6)⟩ rfl H locs ls hP hS (lv_sub hl [0, 1, 2, 4, 5] rfl)
