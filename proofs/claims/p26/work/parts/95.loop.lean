set_option maxHeartbeats 8000000 in
set_option maxRecDepth 100000 in
theorem lw_loop {p : Program} {l : Launch} {e : Env} {s : State} {m : MethodId} {below : List Frame} {meth : Method} {c : Code} {b L : Nat} {xs : Nat → Int32} {dC : Nat → ClassId} {dI : Nat → Nat → Nat} {k : Nat → ClassId} {q q2 : Nat → Nat} (hL : L ≤ 3072) (C0 : lw_At p s m meth c b L xs) (hK : zK dC dI k (zTX k) s) (hDa : ∀ z1 z2 : ZS, va_D (fun a : Nat => s.heap.size ≤ a) (zX k q z1 ++ zM k q2 z2)) : ∀ (n : Nat) {zx zm : ZS} {i : Int32} {H : Heap} {locs : List Loc} {ls : Array Slot}, J2 zx zm → 0 ≤ i.toInt → i.toInt ≤ (L : Int) + 6 → n = ((L : Int) + 6 - i.toInt).toNat → va_P (dC, dI) vwCl (zX k q zx ++ zM k q2 zm) H → va_S (fun a : Nat => s.heap.size ≤ a) s.heap H locs → lv_has ls 4 [(3, .int i), (2, .ref (q2 0)), (1, .ref (q 0)), (0, .ref b)] → W p l e room_1 s m #[Value.ref b] below meth c H locs 1000 10000 (lw_Z below #[Value.ref b] s) (F0 m 18 ls []) := by
  obtain ⟨hx, hb, hr, hml, hown, hts0, hX, hbl, hlocks, hgv⟩ := id C0
  have hbA : ¬ (fun a : Nat => s.heap.size ≤ a) b := Nat.not_le.mpr hbl
  intro n
  induction n using Nat.strongRecOn with
  | _ n ih =>
    intro zx zm i H locs ls hJ h0 h1 hn hP hS hl
    refine lv_iload_n hx hb dL_law_18 rfl (lv_at hl 0 rfl) ?_
    refine lv_aload_n hx hb dL_law_19 rfl (lv_at hl 3 rfl) ?_
    refine va_slen hx hb hX hbl hbA hS dL_law_20 ?_
    refine lv_bipush (v := 6) hx hb dL_law_21 (by decide) ?_
    refine lv_isub hx hb dL_law_23 ?_
    refine lv_topi (fun x1 ex1 => ?_)
    have hlen : (Int32.ofNat L).toInt = (L : Int) := nI_toInt (by omega)
    have hx1 : x1.toInt = (L : Int) - 6 := z_sub ex1 hlen (show (6 : Int32).toInt = 6 by decide) (by omega)
    refine lv_icmp_gt (tgt := 1523) hx hb dL_law_24 (by decide) (fun c_1 => ?_) (fun c_1 => ?_)
    · refine lv_iconst (v := 1) hx hb dL_law_1523 (by decide) ?_
      refine va_forget (fun q hq => hS.2.2 q hq) ?_
      refine W.widen (k := 600000) (n := 7302250) (by decide) (by decide) ?_
      exact lw_ret hx hb hr hlocks dL_law_1524
    · have hc := zb_nlt rfl rfl c_1
      have hi : 0 ≤ i.toInt ∧ i.toInt + 6 ≤ (L : Int) := by omega
      have kk : ∀ (z1 z2 : ZS) (H : Heap) (locs : List Loc), J2 z1 z2 → va_P (dC, dI) vwCl (zX k q z1 ++ zM k q2 z2) H → va_S (fun a : Nat => s.heap.size ≤ a) s.heap H locs → W p l e room_1 s m #[Value.ref b] below meth c H locs 1000 10000 (lw_Z below #[Value.ref b] s) (F0 m 1517 ls []) := by
        intro z1 z2 H locs hJ hP hS
        obtain ⟨x2, ex2⟩ : ∃ y : Int32, y = i + 6 := ⟨_, rfl⟩
        have hx2 : x2.toInt = i.toInt + 6 := z_add ex2 rfl (show (6 : Int32).toInt = 6 by decide) (by omega)
        refine lv_iinc (v := x2) (lv' := [(3, .int x2), (2, .ref (q2 0)), (1, .ref (q 0)), (0, .ref b)]) hx hb dL_law_1517 hl (k := 0) rfl (by rw [ex2]; rfl) (by decide) rfl (fun ls hl => ?_)
        refine lv_goto (tgt := 18) hx hb dL_law_1520 (by decide) ?_
        exact ih _ (by omega) hJ (by omega) (by omega) rfl hP hS hl
      refine lv_aload_n hx hb dL_law_27 rfl (lv_at hl 3 rfl) ?_
      refine lv_iload_n hx hb dL_law_28 rfl (lv_at hl 0 rfl) ?_
      refine va_sld hx hb hX hbl hbA hS (z_in (by omega)) dL_law_29 ?_
      refine lv_topi (fun y8 ey8 => ?_)
      refine lv_bipush (v := 63) hx hb dL_law_30 (by decide) ?_
      refine lv_iand hx hb dL_law_32 ?_
      refine lv_topi (fun y9 ey9 => ?_)
      clear ey9
      rcases Decidable.em (y9.toInt < 0 ∨ 36 < y9.toInt) with sw | sw
      · refine lv_tableOut (tgt := 1517) hx hb dL_law_33 sw (by decide) ?_
        exact kk _ _ H locs hJ hP hS
      · have sw2 : y9 = 0 ∨ y9 = 1 ∨ y9 = 2 ∨ y9 = 3 ∨ y9 = 4 ∨ y9 = 5 ∨ y9 = 6 ∨ y9 = 7 ∨ y9 = 8 ∨ y9 = 9 ∨ y9 = 10 ∨ y9 = 11 ∨ y9 = 12 ∨ y9 = 13 ∨ y9 = 14 ∨ y9 = 15 ∨ y9 = 16 ∨ y9 = 17 ∨ y9 = 18 ∨ y9 = 19 ∨ y9 = 20 ∨ y9 = 21 ∨ y9 = 22 ∨ y9 = 23 ∨ y9 = 24 ∨ y9 = 25 ∨ y9 = 26 ∨ y9 = 27 ∨ y9 = 28 ∨ y9 = 29 ∨ y9 = 30 ∨ y9 = 31 ∨ y9 = 32 ∨ y9 = 33 ∨ y9 = 34 ∨ y9 = 35 ∨ y9 = 36 := by simp only [zi_eq, (by decide : (0 : Int32).toInt = 0), (by decide : (1 : Int32).toInt = 1), (by decide : (2 : Int32).toInt = 2), (by decide : (3 : Int32).toInt = 3), (by decide : (4 : Int32).toInt = 4), (by decide : (5 : Int32).toInt = 5), (by decide : (6 : Int32).toInt = 6), (by decide : (7 : Int32).toInt = 7), (by decide : (8 : Int32).toInt = 8), (by decide : (9 : Int32).toInt = 9), (by decide : (10 : Int32).toInt = 10), (by decide : (11 : Int32).toInt = 11), (by decide : (12 : Int32).toInt = 12), (by decide : (13 : Int32).toInt = 13), (by decide : (14 : Int32).toInt = 14), (by decide : (15 : Int32).toInt = 15), (by decide : (16 : Int32).toInt = 16), (by decide : (17 : Int32).toInt = 17), (by decide : (18 : Int32).toInt = 18), (by decide : (19 : Int32).toInt = 19), (by decide : (20 : Int32).toInt = 20), (by decide : (21 : Int32).toInt = 21), (by decide : (22 : Int32).toInt = 22), (by decide : (23 : Int32).toInt = 23), (by decide : (24 : Int32).toInt = 24), (by decide : (25 : Int32).toInt = 25), (by decide : (26 : Int32).toInt = 26), (by decide : (27 : Int32).toInt = 27), (by decide : (28 : Int32).toInt = 28), (by decide : (29 : Int32).toInt = 29), (by decide : (30 : Int32).toInt = 30), (by decide : (31 : Int32).toInt = 31), (by decide : (32 : Int32).toInt = 32), (by decide : (33 : Int32).toInt = 33), (by decide : (34 : Int32).toInt = 34), (by decide : (35 : Int32).toInt = 35), (by decide : (36 : Int32).toInt = 36)]; omega
        clear sw
        rcases sw2 with rfl | rfl | rfl | rfl | rfl | rfl | rfl | rfl | rfl | rfl | rfl | rfl | rfl | rfl | rfl | rfl | rfl | rfl | rfl | rfl | rfl | rfl | rfl | rfl | rfl | rfl | rfl | rfl | rfl | rfl | rfl | rfl | rfl | rfl | rfl | rfl | rfl
        · refine lv_tableIn (off := 163) (tgt := 196) hx hb dL_law_33 (by decide) (by decide) (by decide) (by decide) ?_
          exact lw_c0 hL C0 hK hDa hJ hi hP hS hl kk
        · refine lv_tableIn (off := 196) (tgt := 229) hx hb dL_law_33 (by decide) (by decide) (by decide) (by decide) ?_
          exact lw_c1 hL C0 hK hDa hJ hi hP hS hl kk
        · refine lv_tableIn (off := 219) (tgt := 252) hx hb dL_law_33 (by decide) (by decide) (by decide) (by decide) ?_
          exact lw_c2 hL C0 hK hDa hJ hi hP hS hl kk
        · refine lv_tableIn (off := 242) (tgt := 275) hx hb dL_law_33 (by decide) (by decide) (by decide) (by decide) ?_
          exact lw_c3 hL C0 hK hDa hJ hi hP hS hl kk
        · refine lv_tableIn (off := 265) (tgt := 298) hx hb dL_law_33 (by decide) (by decide) (by decide) (by decide) ?_
          exact lw_c4 hL C0 hK hDa hJ hi hP hS hl kk
        · refine lv_tableIn (off := 308) (tgt := 341) hx hb dL_law_33 (by decide) (by decide) (by decide) (by decide) ?_
          exact lw_c5 hL C0 hK hDa hJ hi hP hS hl kk
        · refine lv_tableIn (off := 331) (tgt := 364) hx hb dL_law_33 (by decide) (by decide) (by decide) (by decide) ?_
          exact lw_c6 hL C0 hK hDa hJ hi hP hS hl kk
        · refine lv_tableIn (off := 354) (tgt := 387) hx hb dL_law_33 (by decide) (by decide) (by decide) (by decide) ?_
          exact lw_c7 hL C0 hK hDa hJ hi hP hS hl kk
        · refine lv_tableIn (off := 387) (tgt := 420) hx hb dL_law_33 (by decide) (by decide) (by decide) (by decide) ?_
          exact lw_c8 hL C0 hK hDa hJ hi hP hS hl kk
        · refine lv_tableIn (off := 430) (tgt := 463) hx hb dL_law_33 (by decide) (by decide) (by decide) (by decide) ?_
          exact lw_c9 hL C0 hK hDa hJ hi hP hS hl kk
        · refine lv_tableIn (off := 463) (tgt := 496) hx hb dL_law_33 (by decide) (by decide) (by decide) (by decide) ?_
          exact lw_c10 hL C0 hK hDa hJ hi hP hS hl kk
        · refine lv_tableIn (off := 486) (tgt := 519) hx hb dL_law_33 (by decide) (by decide) (by decide) (by decide) ?_
          exact lw_c11 hL C0 hK hDa hJ hi hP hS hl kk
        · refine lv_tableIn (off := 519) (tgt := 552) hx hb dL_law_33 (by decide) (by decide) (by decide) (by decide) ?_
          exact lw_c12 hL C0 hK hDa hJ hi hP hS hl kk
        · refine lv_tableIn (off := 542) (tgt := 575) hx hb dL_law_33 (by decide) (by decide) (by decide) (by decide) ?_
          exact lw_c13 hL C0 hK hDa hJ hi hP hS hl kk
        · refine lv_tableIn (off := 585) (tgt := 618) hx hb dL_law_33 (by decide) (by decide) (by decide) (by decide) ?_
          exact lw_c14 hL C0 hK hDa hJ hi hP hS hl kk
        · refine lv_tableIn (off := 628) (tgt := 661) hx hb dL_law_33 (by decide) (by decide) (by decide) (by decide) ?_
          exact lw_c15 hL C0 hK hDa hJ hi hP hS hl kk
        · refine lv_tableIn (off := 671) (tgt := 704) hx hb dL_law_33 (by decide) (by decide) (by decide) (by decide) ?_
          exact lw_c16 hL C0 hK hDa hJ hi hP hS hl kk
        · refine lv_tableIn (off := 714) (tgt := 747) hx hb dL_law_33 (by decide) (by decide) (by decide) (by decide) ?_
          exact lw_c17 hL C0 hK hDa hJ hi hP hS hl kk
        · refine lv_tableIn (off := 747) (tgt := 780) hx hb dL_law_33 (by decide) (by decide) (by decide) (by decide) ?_
          exact lw_c18 hL C0 hK hDa hJ hi hP hS hl kk
        · refine lv_tableIn (off := 800) (tgt := 833) hx hb dL_law_33 (by decide) (by decide) (by decide) (by decide) ?_
          exact lw_c19 hL C0 hK hDa hJ hi hP hS hl kk
        · refine lv_tableIn (off := 843) (tgt := 876) hx hb dL_law_33 (by decide) (by decide) (by decide) (by decide) ?_
          exact lw_c20 hL C0 hK hDa hJ hi hP hS hl kk
        · refine lv_tableIn (off := 886) (tgt := 919) hx hb dL_law_33 (by decide) (by decide) (by decide) (by decide) ?_
          exact lw_c21 hL C0 hK hDa hJ hi hP hS hl kk
        · refine lv_tableIn (off := 919) (tgt := 952) hx hb dL_law_33 (by decide) (by decide) (by decide) (by decide) ?_
          exact lw_c22 hL C0 hK hDa hJ hi hP hS hl kk
        · refine lv_tableIn (off := 962) (tgt := 995) hx hb dL_law_33 (by decide) (by decide) (by decide) (by decide) ?_
          exact lw_c23 hL C0 hK hDa hJ hi hP hS hl kk
        · refine lv_tableIn (off := 995) (tgt := 1028) hx hb dL_law_33 (by decide) (by decide) (by decide) (by decide) ?_
          exact lw_c24 hL C0 hK hDa hJ hi hP hS hl kk
        · refine lv_tableIn (off := 1018) (tgt := 1051) hx hb dL_law_33 (by decide) (by decide) (by decide) (by decide) ?_
          exact lw_c25 hL C0 hK hDa hJ hi hP hS hl kk
        · refine lv_tableIn (off := 1051) (tgt := 1084) hx hb dL_law_33 (by decide) (by decide) (by decide) (by decide) ?_
          exact lw_c26 hL C0 hK hDa hJ hi hP hS hl kk
        · refine lv_tableIn (off := 1094) (tgt := 1127) hx hb dL_law_33 (by decide) (by decide) (by decide) (by decide) ?_
          exact lw_c27 hL C0 hK hDa hJ hi hP hS hl kk
        · refine lv_tableIn (off := 1157) (tgt := 1190) hx hb dL_law_33 (by decide) (by decide) (by decide) (by decide) ?_
          exact lw_c28 hL C0 hK hDa hJ hi hP hS hl kk
        · refine lv_tableIn (off := 1190) (tgt := 1223) hx hb dL_law_33 (by decide) (by decide) (by decide) (by decide) ?_
          exact lw_c29 hL C0 hK hDa hJ hi hP hS hl kk
        · refine lv_tableIn (off := 1233) (tgt := 1266) hx hb dL_law_33 (by decide) (by decide) (by decide) (by decide) ?_
          exact lw_c30 hL C0 hK hDa hJ hi hP hS hl kk
        · refine lv_tableIn (off := 1256) (tgt := 1289) hx hb dL_law_33 (by decide) (by decide) (by decide) (by decide) ?_
          exact lw_c31 hL C0 hK hDa hJ hi hP hS hl kk
        · refine lv_tableIn (off := 1309) (tgt := 1342) hx hb dL_law_33 (by decide) (by decide) (by decide) (by decide) ?_
          exact lw_c32 hL C0 hK hDa hJ hi hP hS hl kk
        · refine lv_tableIn (off := 1352) (tgt := 1385) hx hb dL_law_33 (by decide) (by decide) (by decide) (by decide) ?_
          exact lw_c33 hL C0 hK hDa hJ hi hP hS hl kk
        · refine lv_tableIn (off := 1415) (tgt := 1448) hx hb dL_law_33 (by decide) (by decide) (by decide) (by decide) ?_
          exact lw_c34 hL C0 hK hDa hJ hi hP hS hl kk
        · refine lv_tableIn (off := 1448) (tgt := 1481) hx hb dL_law_33 (by decide) (by decide) (by decide) (by decide) ?_
          exact lw_c35 hL C0 hK hDa hJ hi hP hS hl kk
        · refine lv_tableIn (off := 1471) (tgt := 1504) hx hb dL_law_33 (by decide) (by decide) (by decide) (by decide) ?_
          exact lw_c36 hL C0 hK hDa hJ hi hP hS hl kk
