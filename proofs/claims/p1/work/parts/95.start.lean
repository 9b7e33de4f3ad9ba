set_option maxHeartbeats 8000000 in
set_option maxRecDepth 100000 in
theorem whole_start {p : Program} {e : Env} {s : State} {m : MethodId} {below : List Frame} {meth : Method} {c : Code} (l : Launch) {b L : Nat} {xs : Nat → Int32} (hL : L ≤ 6) (C0 : lw_At p s m meth c b L xs) : W p l e room_1 s m #[Value.ref b] below meth c s.heap [] 0 0 (lw_Z below #[Value.ref b] s) (entryFrame m ([Value.ref b] : List Value).toArray 4) := by
  obtain ⟨hx, hb, hr, hml, hown, hts0, hX, hbl, hlocks, hgv⟩ := id C0
  have hts : ∀ w ∈ zw, w.before #[Value.ref b] s = true := fun w h => hts0 w (List.mem_filter.mp h).1
  have hA : ∀ q : Nat, s.heap.size ≤ q → (fun a : Nat => s.heap.size ≤ a) q := fun _ h => h
  have hbA : ¬ (fun a : Nat => s.heap.size ≤ a) b := Nat.not_le.mpr hbl
  obtain ⟨c0, iS0, hKn0⟩ := u_known (C := RX0) (T := TX0) (N := 9) (n := 9) hts inw0 (hts _ wmt1_25)
  obtain ⟨c1, iS1, hKn1⟩ := u_known (C := RX1) (T := TX1) (N := 9) (n := 9) hts inw1 (hts _ wmt1_112)
  obtain ⟨c2, iS2, hKn2⟩ := u_known (C := RX2) (T := TX2) (N := 2) (n := 2) hts inw2 (hts _ wmt1_98)
  obtain ⟨c3, iS3, hKn3⟩ := u_known (C := RX3) (T := TX3) (N := 1) (n := 1) hts inw3 (hts _ wmt1_87)
  obtain ⟨c4, iS4, hKn4⟩ := u_known (C := RX4) (T := TX4) (N := 3) (n := 3) hts inw4 (hts _ wmt1_69)
  obtain ⟨c5, iS5, hKn5⟩ := u_known (C := RX5) (T := TX5) (N := 3) (n := 3) hts inw5 (hts _ wmt1_152)
  obtain ⟨c6, iS6, hKn6⟩ := u_known (C := RX6) (T := TX6) (N := 12) (n := 12) hts inw6 (hts _ wmt1_13)
  obtain ⟨c7, iS7, hKn7⟩ := u_known (C := RX7) (T := TX7) (N := 42) (n := 42) hts inw7 (hts _ wmt3_162)
  obtain ⟨dC, dI, hKc⟩ : ∃ (dC : Nat → ClassId) (dI : Nat → Nat → Nat), ∀ (k : Nat) (q : vw_C), vwCl[k]? = some q → u_Kn s q.1 q.2.1 q.2.2 (dC k) (dI k) := by
    refine ⟨fun k => match k with | 0 => c0 | 1 => c1 | 2 => c2 | 3 => c3 | 4 => c4 | 5 => c5 | 6 => c6 | _ => c7, fun k => match k with | 0 => iS0 | 1 => iS1 | 2 => iS2 | 3 => iS3 | 4 => iS4 | 5 => iS5 | 6 => iS6 | _ => iS7, ?_⟩
    intro k q hq
    match k, hq with
    | 0, hq => cases hq; exact hKn0
    | 1, hq => cases hq; exact hKn1
    | 2, hq => cases hq; exact hKn2
    | 3, hq => cases hq; exact hKn3
    | 4, hq => cases hq; exact hKn4
    | 5, hq => cases hq; exact hKn5
    | 6, hq => cases hq; exact hKn6
    | 7, hq => cases hq; exact hKn7
    | k + 8, hq => simp [vwCl] at hq
  obtain ⟨a0, aA0, aR0⟩ := z_arrK (hts _ wmt1_67)
  obtain ⟨a1, aA1, aR1⟩ := z_arrK (hts _ wmt1_96)
  obtain ⟨a2, aA2, aR2⟩ := z_arrK (hts _ wmt4_54)
  have hO1 : (Cond.arrayOver (.object "SecretLots$Design")).before #[Value.ref b] s = true := hts0 _ (by decide +kernel)
  have hO2 : (Cond.arrayOver (.object "SecretLots$Sheet")).before #[Value.ref b] s = true := hts0 _ (by decide +kernel)
  obtain ⟨a3, aA3, aR3⟩ := z_arrO hO1
  obtain ⟨a4, aA4, aR4⟩ := z_arrO hO2
  obtain ⟨k, hk⟩ : ∃ k : Nat → ClassId, k = (fun i => match i with | 0 => a0 | 1 => a1 | 2 => a2 | 3 => a3 | _ => a4) := ⟨_, rfl⟩
  have hK : zK dC dI k (zTX k) s := by
    refine ⟨⟨hKc, ?_⟩, va_Nw.of rfl (hts0 _ (by decide +kernel)), va_Nw.of rfl (hts0 _ (by decide +kernel)), va_Nw.of rfl (hts0 _ (by decide +kernel)), va_Nw.of rfl (hts0 _ (by decide +kernel)), va_Nw.of rfl (hts0 _ (by decide +kernel)), va_Nw.of rfl (hts0 _ (by decide +kernel)), va_Nw.of rfl (hts0 _ (by decide +kernel)), va_Nw.of rfl (hts0 _ (by decide +kernel))⟩
    rw [hk]
    intro j q hq
    match j, hq with
    | 0, hq => cases hq; exact ⟨aA0, aR0⟩
    | 1, hq => cases hq; exact ⟨aA1, aR1⟩
    | 2, hq => cases hq; exact ⟨aA2, aR2⟩
    | 3, hq => cases hq; exact ⟨aA3, aR3⟩
    | 4, hq => cases hq; exact ⟨aA4, aR4⟩
    | j + 5, hq => simp at hq
  have hS : va_S (fun a : Nat => s.heap.size ≤ a) s.heap s.heap [] := va_S.rf
  have hP : va_P (dC, dI) vwCl [] s.heap := fun k q h => by simp at h
  have hD : va_D (fun a : Nat => s.heap.size ≤ a) [] := ⟨fun i j p q h => by simp at h, fun k q h => by simp at h⟩
  have hl := lv_entry ([Value.ref b]) (n := 4) (Nat.le_of_ble_eq_true rfl)
  rw [lg_entry_eq]
  generalize (lg_sl ([Value.ref b]) ++ List.replicate (4 - (lg_sl ([Value.ref b])).length) Slot.unset).toArray = ls at hl ⊢
  have hl : lv_has ls 4 [(0, .ref b)] := hl
  refine va_new (D := (dC, dI)) (ci := 6) (fs := [.null, .null, .null, .null, .null, .null, .null, .int 0, .int 0, .int 0, .int 0, .int 0]) (C := RX6) (T := TX6) (N := 12) hx hb hts inw6 tyX6 tyX6_ok hown (hts _ wmt1_12) (hts _ wmt1_13) (hts _ wmt1_1) hK.1 hP hD hS hA rfl (fun j hj => by rcases (show j = 0 ∨ j = 1 ∨ j = 2 ∨ j = 3 ∨ j = 4 ∨ j = 5 ∨ j = 6 ∨ j = 7 ∨ j = 8 ∨ j = 9 ∨ j = 10 ∨ j = 11 by omega) with rfl | rfl | rfl | rfl | rfl | rfl | rfl | rfl | rfl | rfl | rfl | rfl <;> rfl) (Nat.le_of_ble_eq_true rfl) (Nat.le_of_ble_eq_true rfl) dL_law_0 (fun q1 H hP hD hS => ?_)
  have hP : va_P (dC, dI) vwCl [(q1, .inr (6, [.null, .null, .null, .null, .null, .null, .null, .int 0, .int 0, .int 0, .int 0, .int 0]))] H := hP
  have hD : va_D (fun a : Nat => s.heap.size ≤ a) [(q1, .inr (6, [.null, .null, .null, .null, .null, .null, .null, .int 0, .int 0, .int 0, .int 0, .int 0]))] := hD
  refine lv_dup hx hb dL_law_3 rfl ?_
  refine zcA_v (w := [(q1, .inr (6, [.null, .null, .null, .null, .null, .null, .null, .int 0, .int 0, .int 0, .int 0, .int 0]))]) (va_runI (As := []) (rest := [.ref q1]) ⟨hx, hb, hml, hown, hts⟩ (c_X6_init l dC dI k q1 _) (cwI 0 hts (wz_good wmt1_16) rfl rfl rfl (hts _ wmt1_1) (hts _ wmt1_14) (hts _ wmt1_15) rfl (by decide +kernel) ⟨Nat.le_of_ble_eq_true rfl, Nat.le_of_ble_eq_true rfl⟩) ⟨fun a U g mk q => by obtain ⟨r0, ⟨r1, rP, rK, rD⟩, r2, r3⟩ := q; exact ⟨r0, ⟨r1, rP, ⟨va_K.moved (u := U) (U := U.calling g mk a) (Vm.Alike.refl U.vm) rK.1, zN_same (u := U) (U := U.calling g mk a) rfl rK.2⟩, rD⟩, va_AO.moved (u := U) (U := U.calling g mk a) (Vm.Alike.refl U.vm) r2, va_AO.moved (u := U) (U := U.calling g mk a) (Vm.Alike.refl U.vm) r3⟩, fun U hU hW => ⟨rfl, ⟨by rw [hU], by rw [hU]; exact hP, ⟨va_K.moved hW.alike hK.1, zN_warm hW hK.2⟩, hD.weaken (fun _ _ _ _ => trivial)⟩, va_AO.moved hW.alike (va_AO.of hO1), va_AO.moved hW.alike (va_AO.of hO2)⟩⟩ rfl rfl hl.1 rfl (lv_room (Nat.le_of_ble_eq_true rfl)) dL_law_4 ⟨Nat.le_of_ble_eq_true rfl, Nat.le_of_ble_eq_true rfl⟩) hD hS hA (fun q H locs hq hP hD hS => ?_)
  replace hq : q 0 = q1 := hq
  have hP6 : va_P (dC, dI) vwCl (zX k q 0 (-1) 12 100 0 (fun _ => 0) 0 0 (fun _ => 0) (fun _ => 0) (fun _ => 0) (fun _ => 0) (fun _ => 0) (fun _ => 0) (fun _ => 0) 0 0 0 (fun _ => 0) 0 1 232792560 0 0 0 0 0 1 (fun _ => 0) (fun _ => 0) 232792560 0 0 0 0 0 1 (fun _ => 0) (fun _ => 0) 232792560 0 0 0 0 0 1 (fun _ => 0) (fun _ => 0) 232792560 0 0 0 0 0 1 (fun _ => 0) (fun _ => 0) (-1) 0 (fun _ => 0) (-1) 0 (fun _ => 0) (-1) 0 (fun _ => 0) (-1) 0 (fun _ => 0)) H := hP
  have hD6 : va_D (fun a : Nat => s.heap.size ≤ a) (zX k q 0 (-1) 12 100 0 (fun _ => 0) 0 0 (fun _ => 0) (fun _ => 0) (fun _ => 0) (fun _ => 0) (fun _ => 0) (fun _ => 0) (fun _ => 0) 0 0 0 (fun _ => 0) 0 1 232792560 0 0 0 0 0 1 (fun _ => 0) (fun _ => 0) 232792560 0 0 0 0 0 1 (fun _ => 0) (fun _ => 0) 232792560 0 0 0 0 0 1 (fun _ => 0) (fun _ => 0) 232792560 0 0 0 0 0 1 (fun _ => 0) (fun _ => 0) (-1) 0 (fun _ => 0) (-1) 0 (fun _ => 0) (-1) 0 (fun _ => 0) (-1) 0 (fun _ => 0)) := hD
  have hS6 := hS
  have hl6 := hl
  subst hq
  have hP := hP6
  have hD := hD6
  have hS := hS6
  have hl := hl6
  refine lv_astore_n (lv' := [(1, .ref (q 0)), (0, .ref b)]) hx hb dL_law_7 rfl hl (by decide) rfl (fun ls hl => ?_)
  refine va_new (D := (dC, dI)) (ci := 7) (fs := [.long 0, .long 0, .null, .null, .null, .null, .null, .null, .null, .null, .null, .int 0, .int 0, .int 0, .int 0, .int 0, .null, .null, .null, .int 0, .int 0, .null, .int 0, .null, .null, .null, .null, .null, .int 0, .int 0, .long 0, .long 0, .long 0, .int 0, .null, .int 0, .null, .null, .null, .null, .null, .int 0]) (C := RX7) (T := TX7) (N := 42) hx hb hts inw7 tyX7 tyX7_ok hown (hts _ wmt3_161) (hts _ wmt3_162) (hts _ wmt1_8) hK.1 hP hD hS hA rfl (fun j hj => by rcases (show j = 0 ∨ j = 1 ∨ j = 2 ∨ j = 3 ∨ j = 4 ∨ j = 5 ∨ j = 6 ∨ j = 7 ∨ j = 8 ∨ j = 9 ∨ j = 10 ∨ j = 11 ∨ j = 12 ∨ j = 13 ∨ j = 14 ∨ j = 15 ∨ j = 16 ∨ j = 17 ∨ j = 18 ∨ j = 19 ∨ j = 20 ∨ j = 21 ∨ j = 22 ∨ j = 23 ∨ j = 24 ∨ j = 25 ∨ j = 26 ∨ j = 27 ∨ j = 28 ∨ j = 29 ∨ j = 30 ∨ j = 31 ∨ j = 32 ∨ j = 33 ∨ j = 34 ∨ j = 35 ∨ j = 36 ∨ j = 37 ∨ j = 38 ∨ j = 39 ∨ j = 40 ∨ j = 41 by omega) with rfl | rfl | rfl | rfl | rfl | rfl | rfl | rfl | rfl | rfl | rfl | rfl | rfl | rfl | rfl | rfl | rfl | rfl | rfl | rfl | rfl | rfl | rfl | rfl | rfl | rfl | rfl | rfl | rfl | rfl | rfl | rfl | rfl | rfl | rfl | rfl | rfl | rfl | rfl | rfl | rfl | rfl <;> rfl) (Nat.le_of_ble_eq_true rfl) (Nat.le_of_ble_eq_true rfl) dL_law_8 (fun q3 H hP hD hS => ?_)
  have hP : va_P (dC, dI) vwCl ((zX k q 0 (-1) 12 100 0 (fun _ => 0) 0 0 (fun _ => 0) (fun _ => 0) (fun _ => 0) (fun _ => 0) (fun _ => 0) (fun _ => 0) (fun _ => 0) 0 0 0 (fun _ => 0) 0 1 232792560 0 0 0 0 0 1 (fun _ => 0) (fun _ => 0) 232792560 0 0 0 0 0 1 (fun _ => 0) (fun _ => 0) 232792560 0 0 0 0 0 1 (fun _ => 0) (fun _ => 0) 232792560 0 0 0 0 0 1 (fun _ => 0) (fun _ => 0) (-1) 0 (fun _ => 0) (-1) 0 (fun _ => 0) (-1) 0 (fun _ => 0) (-1) 0 (fun _ => 0)) ++ [(q3, .inr (7, [.long 0, .long 0, .null, .null, .null, .null, .null, .null, .null, .null, .null, .int 0, .int 0, .int 0, .int 0, .int 0, .null, .null, .null, .int 0, .int 0, .null, .int 0, .null, .null, .null, .null, .null, .int 0, .int 0, .long 0, .long 0, .long 0, .int 0, .null, .int 0, .null, .null, .null, .null, .null, .int 0]))]) H := hP
  have hD : va_D (fun a : Nat => s.heap.size ≤ a) ((zX k q 0 (-1) 12 100 0 (fun _ => 0) 0 0 (fun _ => 0) (fun _ => 0) (fun _ => 0) (fun _ => 0) (fun _ => 0) (fun _ => 0) (fun _ => 0) 0 0 0 (fun _ => 0) 0 1 232792560 0 0 0 0 0 1 (fun _ => 0) (fun _ => 0) 232792560 0 0 0 0 0 1 (fun _ => 0) (fun _ => 0) 232792560 0 0 0 0 0 1 (fun _ => 0) (fun _ => 0) 232792560 0 0 0 0 0 1 (fun _ => 0) (fun _ => 0) (-1) 0 (fun _ => 0) (-1) 0 (fun _ => 0) (-1) 0 (fun _ => 0) (-1) 0 (fun _ => 0)) ++ [(q3, .inr (7, [.long 0, .long 0, .null, .null, .null, .null, .null, .null, .null, .null, .null, .int 0, .int 0, .int 0, .int 0, .int 0, .null, .null, .null, .int 0, .int 0, .null, .int 0, .null, .null, .null, .null, .null, .int 0, .int 0, .long 0, .long 0, .long 0, .int 0, .null, .int 0, .null, .null, .null, .null, .null, .int 0]))]) := hD
  refine lv_dup hx hb dL_law_11 rfl ?_
  refine zc_v (w := (zX k q 0 (-1) 12 100 0 (fun _ => 0) 0 0 (fun _ => 0) (fun _ => 0) (fun _ => 0) (fun _ => 0) (fun _ => 0) (fun _ => 0) (fun _ => 0) 0 0 0 (fun _ => 0) 0 1 232792560 0 0 0 0 0 1 (fun _ => 0) (fun _ => 0) 232792560 0 0 0 0 0 1 (fun _ => 0) (fun _ => 0) 232792560 0 0 0 0 0 1 (fun _ => 0) (fun _ => 0) 232792560 0 0 0 0 0 1 (fun _ => 0) (fun _ => 0) (-1) 0 (fun _ => 0) (-1) 0 (fun _ => 0) (-1) 0 (fun _ => 0) (-1) 0 (fun _ => 0)) ++ [(q3, .inr (7, [.long 0, .long 0, .null, .null, .null, .null, .null, .null, .null, .null, .null, .int 0, .int 0, .int 0, .int 0, .int 0, .null, .null, .null, .int 0, .int 0, .null, .int 0, .null, .null, .null, .null, .null, .int 0, .int 0, .long 0, .long 0, .long 0, .int 0, .null, .int 0, .null, .null, .null, .null, .null, .int 0]))]) (wc := [(q3, .inr (7, [.long 0, .long 0, .null, .null, .null, .null, .null, .null, .null, .null, .null, .int 0, .int 0, .int 0, .int 0, .int 0, .null, .null, .null, .int 0, .int 0, .null, .int 0, .null, .null, .null, .null, .null, .int 0, .int 0, .long 0, .long 0, .long 0, .int 0, .null, .int 0, .null, .null, .null, .null, .null, .int 0]))]) (wr := (zX k q 0 (-1) 12 100 0 (fun _ => 0) 0 0 (fun _ => 0) (fun _ => 0) (fun _ => 0) (fun _ => 0) (fun _ => 0) (fun _ => 0) (fun _ => 0) 0 0 0 (fun _ => 0) 0 1 232792560 0 0 0 0 0 1 (fun _ => 0) (fun _ => 0) 232792560 0 0 0 0 0 1 (fun _ => 0) (fun _ => 0) 232792560 0 0 0 0 0 1 (fun _ => 0) (fun _ => 0) 232792560 0 0 0 0 0 1 (fun _ => 0) (fun _ => 0) (-1) 0 (fun _ => 0) (-1) 0 (fun _ => 0) (-1) 0 (fun _ => 0) (-1) 0 (fun _ => 0))) (va_runI (As := []) (rest := [.ref q3]) ⟨hx, hb, hml, hown, hts⟩ (c_X7_init l dC dI k (zTX k) q3 _) (cwI 0 hts (wz_good wmt3_165) rfl rfl rfl (hts _ wmt1_8) (hts _ wmt3_163) (hts _ wmt3_164) rfl (by decide +kernel) ⟨Nat.le_of_ble_eq_true rfl, Nat.le_of_ble_eq_true rfl⟩) (zpA_S hK (z_PR hP) (z_DR hD)) rfl rfl hl.1 rfl (lv_room (Nat.le_of_ble_eq_true rfl)) dL_law_12 ⟨Nat.le_of_ble_eq_true rfl, Nat.le_of_ble_eq_true rfl⟩) hP hD hS hA [36] [0, 1, 2, 3, 4, 5, 6, 7, 8, 9, 10, 11, 12, 13, 14, 15, 16, 17, 18, 19, 20, 21, 22, 23, 24, 25, 26, 27, 28, 29, 30, 31, 32, 33, 34, 35] rfl rfl (by decide) (by decide) (fun q2 H locs hq hP hD hS => ?_)
  replace hq : q2 0 = q3 := hq
  have hP7 : va_P (dC, dI) vwCl ((zX k q 0 (-1) 12 100 0 (fun _ => 0) 0 0 (fun _ => 0) (fun _ => 0) (fun _ => 0) (fun _ => 0) (fun _ => 0) (fun _ => 0) (fun _ => 0) 0 0 0 (fun _ => 0) 0 1 232792560 0 0 0 0 0 1 (fun _ => 0) (fun _ => 0) 232792560 0 0 0 0 0 1 (fun _ => 0) (fun _ => 0) 232792560 0 0 0 0 0 1 (fun _ => 0) (fun _ => 0) 232792560 0 0 0 0 0 1 (fun _ => 0) (fun _ => 0) (-1) 0 (fun _ => 0) (-1) 0 (fun _ => 0) (-1) 0 (fun _ => 0) (-1) 0 (fun _ => 0)) ++ (zM k q2 0 1 (fun _ => 0) (fun _ => 0) (fun _ => 0) (fun _ => 0) (fun _ => 0) (fun _ => 0) (fun _ => 0) (fun _ => 0) (fun _ => 0) 12 0 0 0 0 (fun _ => 0) (fun _ => 0) (fun _ => 0) 0 (-1) (fun _ => 0) 0 (fun _ => 0) (fun _ => 0) (fun _ => 0) (fun _ => 0) (fun _ => 0) 0 0 0 0 0 0 (fun _ => 0) 100 (fun _ => 0) (fun _ => 0) (fun _ => 0) (fun _ => 0) (fun _ => 0) 0)) H := hP
  have hD7 : va_D (fun a : Nat => s.heap.size ≤ a) ((zX k q 0 (-1) 12 100 0 (fun _ => 0) 0 0 (fun _ => 0) (fun _ => 0) (fun _ => 0) (fun _ => 0) (fun _ => 0) (fun _ => 0) (fun _ => 0) 0 0 0 (fun _ => 0) 0 1 232792560 0 0 0 0 0 1 (fun _ => 0) (fun _ => 0) 232792560 0 0 0 0 0 1 (fun _ => 0) (fun _ => 0) 232792560 0 0 0 0 0 1 (fun _ => 0) (fun _ => 0) 232792560 0 0 0 0 0 1 (fun _ => 0) (fun _ => 0) (-1) 0 (fun _ => 0) (-1) 0 (fun _ => 0) (-1) 0 (fun _ => 0) (-1) 0 (fun _ => 0)) ++ (zM k q2 0 1 (fun _ => 0) (fun _ => 0) (fun _ => 0) (fun _ => 0) (fun _ => 0) (fun _ => 0) (fun _ => 0) (fun _ => 0) (fun _ => 0) 12 0 0 0 0 (fun _ => 0) (fun _ => 0) (fun _ => 0) 0 (-1) (fun _ => 0) 0 (fun _ => 0) (fun _ => 0) (fun _ => 0) (fun _ => 0) (fun _ => 0) 0 0 0 0 0 0 (fun _ => 0) 100 (fun _ => 0) (fun _ => 0) (fun _ => 0) (fun _ => 0) (fun _ => 0) 0)) := hD
  have hS7 := hS
  have hl7 := hl
  subst hq
  have hP := hP7
  have hD := hD7
  have hS := hS7
  have hl := hl7
  refine W.widen (k := 1000) (n := 10000) (by decide) (by decide) ?_
  refine lv_astore_n (lv' := [(2, .ref (q2 0)), (1, .ref (q 0)), (0, .ref b)]) hx hb dL_law_15 rfl hl (by decide) rfl (fun ls hl => ?_)
  refine lv_iconst (v := 0) hx hb dL_law_16 (by decide) ?_
  refine lv_istore_n (lv' := [(3, .int 0), (2, .ref (q2 0)), (1, .ref (q 0)), (0, .ref b)]) hx hb dL_law_17 rfl hl (by decide) rfl (fun ls hl => ?_)
  refine lv_iload_n hx hb dL_law_18 rfl (lv_at hl 0 rfl) ?_
  refine lv_aload_n hx hb dL_law_19 rfl (lv_at hl 3 rfl) ?_
  refine va_slen hx hb hX hbl hbA hS dL_law_20 ?_
  refine lv_bipush (v := 6) hx hb dL_law_21 (by decide) ?_
  refine lv_isub hx hb dL_law_23 ?_
  refine lv_icmp_gt (tgt := 1533) hx hb dL_law_24 (by decide) (fun c_1 => ?_) (fun c_1 => ?_)
  · refine lv_iconst (v := 1) hx hb dL_law_1533 (by decide) ?_
    refine va_forget (fun q hq => hS.2.2 q hq) ?_
    refine W.widen (k := 600000) (n := 7302250) (by decide) (by decide) ?_
    exact lw_ret hx hb hr hlocks dL_law_1534
  · obtain rfl : L = 6 := by
      rcases Nat.lt_or_ge L 6 with q9 | q9
      · exact absurd (pk_sneg (a := L) (b := 6) (by decide) q9) c_1
      · omega
    refine lv_aload_n hx hb dL_law_27 rfl (lv_at hl 3 rfl) ?_
    refine lv_iload_n hx hb dL_law_28 rfl (lv_at hl 0 rfl) ?_
    refine va_sld hx hb hX hbl hbA hS (show ¬ _ by decide) dL_law_29 ?_
    refine z_top (v2 := .int (xs 0)) rfl ?_
    refine lv_bipush (v := 63) hx hb dL_law_30 (by decide) ?_
    refine lv_iand hx hb dL_law_32 ?_
    refine lv_topi (fun y9 ey9 => ?_)
    clear ey9
    rcases Decidable.em (y9.toInt < 0 ∨ 36 < y9.toInt) with sw | sw
    · refine lv_tableOut (tgt := 1527) hx hb dL_law_33 sw (by decide) ?_
      exact lw_end C0 hS hl
    · have sw2 : y9 = 0 ∨ y9 = 1 ∨ y9 = 2 ∨ y9 = 3 ∨ y9 = 4 ∨ y9 = 5 ∨ y9 = 6 ∨ y9 = 7 ∨ y9 = 8 ∨ y9 = 9 ∨ y9 = 10 ∨ y9 = 11 ∨ y9 = 12 ∨ y9 = 13 ∨ y9 = 14 ∨ y9 = 15 ∨ y9 = 16 ∨ y9 = 17 ∨ y9 = 18 ∨ y9 = 19 ∨ y9 = 20 ∨ y9 = 21 ∨ y9 = 22 ∨ y9 = 23 ∨ y9 = 24 ∨ y9 = 25 ∨ y9 = 26 ∨ y9 = 27 ∨ y9 = 28 ∨ y9 = 29 ∨ y9 = 30 ∨ y9 = 31 ∨ y9 = 32 ∨ y9 = 33 ∨ y9 = 34 ∨ y9 = 35 ∨ y9 = 36 := by simp only [zi_eq, (by decide : (0 : Int32).toInt = 0), (by decide : (1 : Int32).toInt = 1), (by decide : (2 : Int32).toInt = 2), (by decide : (3 : Int32).toInt = 3), (by decide : (4 : Int32).toInt = 4), (by decide : (5 : Int32).toInt = 5), (by decide : (6 : Int32).toInt = 6), (by decide : (7 : Int32).toInt = 7), (by decide : (8 : Int32).toInt = 8), (by decide : (9 : Int32).toInt = 9), (by decide : (10 : Int32).toInt = 10), (by decide : (11 : Int32).toInt = 11), (by decide : (12 : Int32).toInt = 12), (by decide : (13 : Int32).toInt = 13), (by decide : (14 : Int32).toInt = 14), (by decide : (15 : Int32).toInt = 15), (by decide : (16 : Int32).toInt = 16), (by decide : (17 : Int32).toInt = 17), (by decide : (18 : Int32).toInt = 18), (by decide : (19 : Int32).toInt = 19), (by decide : (20 : Int32).toInt = 20), (by decide : (21 : Int32).toInt = 21), (by decide : (22 : Int32).toInt = 22), (by decide : (23 : Int32).toInt = 23), (by decide : (24 : Int32).toInt = 24), (by decide : (25 : Int32).toInt = 25), (by decide : (26 : Int32).toInt = 26), (by decide : (27 : Int32).toInt = 27), (by decide : (28 : Int32).toInt = 28), (by decide : (29 : Int32).toInt = 29), (by decide : (30 : Int32).toInt = 30), (by decide : (31 : Int32).toInt = 31), (by decide : (32 : Int32).toInt = 32), (by decide : (33 : Int32).toInt = 33), (by decide : (34 : Int32).toInt = 34), (by decide : (35 : Int32).toInt = 35), (by decide : (36 : Int32).toInt = 36)]; omega
      clear sw
      rcases sw2 with rfl | rfl | rfl | rfl | rfl | rfl | rfl | rfl | rfl | rfl | rfl | rfl | rfl | rfl | rfl | rfl | rfl | rfl | rfl | rfl | rfl | rfl | rfl | rfl | rfl | rfl | rfl | rfl | rfl | rfl | rfl | rfl | rfl | rfl | rfl | rfl | rfl
      · refine lv_tableIn (off := 163) (tgt := 196) hx hb dL_law_33 (by decide) (by decide) (by decide) (by decide) ?_
        exact lw_c0 C0 hK hP hD hS hl
      · refine lv_tableIn (off := 196) (tgt := 229) hx hb dL_law_33 (by decide) (by decide) (by decide) (by decide) ?_
        exact lw_c1 C0 hK hP hD hS hl
      · refine lv_tableIn (off := 219) (tgt := 252) hx hb dL_law_33 (by decide) (by decide) (by decide) (by decide) ?_
        exact lw_c2 C0 hK hP hD hS hl
      · refine lv_tableIn (off := 242) (tgt := 275) hx hb dL_law_33 (by decide) (by decide) (by decide) (by decide) ?_
        exact lw_c3 C0 hK hP hD hS hl
      · refine lv_tableIn (off := 265) (tgt := 298) hx hb dL_law_33 (by decide) (by decide) (by decide) (by decide) ?_
        exact lw_c4 C0 hK hP hD hS hl
      · refine lv_tableIn (off := 309) (tgt := 342) hx hb dL_law_33 (by decide) (by decide) (by decide) (by decide) ?_
        exact lw_c5 C0 hK hP hD hS hl
      · refine lv_tableIn (off := 332) (tgt := 365) hx hb dL_law_33 (by decide) (by decide) (by decide) (by decide) ?_
        exact lw_c6 C0 hK hP hD hS hl
      · refine lv_tableIn (off := 355) (tgt := 388) hx hb dL_law_33 (by decide) (by decide) (by decide) (by decide) ?_
        exact lw_c7 C0 hK hP hD hS hl
      · refine lv_tableIn (off := 388) (tgt := 421) hx hb dL_law_33 (by decide) (by decide) (by decide) (by decide) ?_
        exact lw_c8 C0 hK hP hD hS hl
      · refine lv_tableIn (off := 431) (tgt := 464) hx hb dL_law_33 (by decide) (by decide) (by decide) (by decide) ?_
        exact lw_c9 C0 hK hP hD hS hl
      · refine lv_tableIn (off := 464) (tgt := 497) hx hb dL_law_33 (by decide) (by decide) (by decide) (by decide) ?_
        exact lw_c10 C0 hK hP hD hS hl
      · refine lv_tableIn (off := 487) (tgt := 520) hx hb dL_law_33 (by decide) (by decide) (by decide) (by decide) ?_
        exact lw_c11 C0 hK hP hD hS hl
      · refine lv_tableIn (off := 520) (tgt := 553) hx hb dL_law_33 (by decide) (by decide) (by decide) (by decide) ?_
        exact lw_c12 C0 hK hP hD hS hl
      · refine lv_tableIn (off := 543) (tgt := 576) hx hb dL_law_33 (by decide) (by decide) (by decide) (by decide) ?_
        exact lw_c13 C0 hK hP hD hS hl
      · refine lv_tableIn (off := 586) (tgt := 619) hx hb dL_law_33 (by decide) (by decide) (by decide) (by decide) ?_
        exact lw_c14 C0 hK hP hD hS hl
      · refine lv_tableIn (off := 630) (tgt := 663) hx hb dL_law_33 (by decide) (by decide) (by decide) (by decide) ?_
        exact lw_c15 C0 hK hP hD hS hl
      · refine lv_tableIn (off := 674) (tgt := 707) hx hb dL_law_33 (by decide) (by decide) (by decide) (by decide) ?_
        exact lw_c16 C0 hK hP hD hS hl
      · refine lv_tableIn (off := 718) (tgt := 751) hx hb dL_law_33 (by decide) (by decide) (by decide) (by decide) ?_
        exact lw_c17 C0 hK hP hD hS hl
      · refine lv_tableIn (off := 751) (tgt := 784) hx hb dL_law_33 (by decide) (by decide) (by decide) (by decide) ?_
        exact lw_c18 C0 hK hP hD hS hl
      · refine lv_tableIn (off := 804) (tgt := 837) hx hb dL_law_33 (by decide) (by decide) (by decide) (by decide) ?_
        exact lw_c19 C0 hK hP hD hS hl
      · refine lv_tableIn (off := 847) (tgt := 880) hx hb dL_law_33 (by decide) (by decide) (by decide) (by decide) ?_
        exact lw_c20 C0 hK hP hD hS hl
      · refine lv_tableIn (off := 891) (tgt := 924) hx hb dL_law_33 (by decide) (by decide) (by decide) (by decide) ?_
        exact lw_c21 C0 hK hP hD hS hl
      · refine lv_tableIn (off := 925) (tgt := 958) hx hb dL_law_33 (by decide) (by decide) (by decide) (by decide) ?_
        exact lw_c22 C0 hK hP hD hS hl
      · refine lv_tableIn (off := 969) (tgt := 1002) hx hb dL_law_33 (by decide) (by decide) (by decide) (by decide) ?_
        exact lw_c23 C0 hK hP hD hS hl
      · refine lv_tableIn (off := 1003) (tgt := 1036) hx hb dL_law_33 (by decide) (by decide) (by decide) (by decide) ?_
        exact lw_c24 C0 hK hP hD hS hl
      · refine lv_tableIn (off := 1026) (tgt := 1059) hx hb dL_law_33 (by decide) (by decide) (by decide) (by decide) ?_
        exact lw_c25 C0 hK hP hD hS hl
      · refine lv_tableIn (off := 1059) (tgt := 1092) hx hb dL_law_33 (by decide) (by decide) (by decide) (by decide) ?_
        exact lw_c26 C0 hK hP hD hS hl
      · refine lv_tableIn (off := 1102) (tgt := 1135) hx hb dL_law_33 (by decide) (by decide) (by decide) (by decide) ?_
        exact lw_c27 C0 hK hP hD hS hl
      · refine lv_tableIn (off := 1166) (tgt := 1199) hx hb dL_law_33 (by decide) (by decide) (by decide) (by decide) ?_
        exact lw_c28 C0 hK hP hD hS hl
      · refine lv_tableIn (off := 1199) (tgt := 1232) hx hb dL_law_33 (by decide) (by decide) (by decide) (by decide) ?_
        exact lw_c29 C0 hK hP hD hS hl
      · refine lv_tableIn (off := 1242) (tgt := 1275) hx hb dL_law_33 (by decide) (by decide) (by decide) (by decide) ?_
        exact lw_c30 C0 hK hP hD hS hl
      · refine lv_tableIn (off := 1265) (tgt := 1298) hx hb dL_law_33 (by decide) (by decide) (by decide) (by decide) ?_
        exact lw_c31 C0 hK hP hD hS hl
      · refine lv_tableIn (off := 1318) (tgt := 1351) hx hb dL_law_33 (by decide) (by decide) (by decide) (by decide) ?_
        exact lw_c32 C0 hK hP hD hS hl
      · refine lv_tableIn (off := 1361) (tgt := 1394) hx hb dL_law_33 (by decide) (by decide) (by decide) (by decide) ?_
        exact lw_c33 C0 hK hP hD hS hl
      · refine lv_tableIn (off := 1424) (tgt := 1457) hx hb dL_law_33 (by decide) (by decide) (by decide) (by decide) ?_
        exact lw_c34 C0 hK hP hD hS hl
      · refine lv_tableIn (off := 1457) (tgt := 1490) hx hb dL_law_33 (by decide) (by decide) (by decide) (by decide) ?_
        exact lw_c35 C0 hK hP hD hS hl
      · refine lv_tableIn (off := 1480) (tgt := 1513) hx hb dL_law_33 (by decide) (by decide) (by decide) (by decide) ?_
        exact lw_c36 C0 hK hP hD hS hl
