theorem z_PL {D : va_G} {cl : List vw_C} {a b : va_W} {H : Heap} (h : va_P D cl (a ++ b) H) : va_P D cl a H := fun k q hk => h k q (by rw [List.getElem?_append_left (List.getElem?_eq_some_iff.mp hk).1]; exact hk)
theorem z_PR {D : va_G} {cl : List vw_C} {a b : va_W} {H : Heap} (h : va_P D cl (a ++ b) H) : va_P D cl b H := fun k q hk => h (a.length + k) q (by rw [List.getElem?_append_right (by omega), Nat.add_sub_cancel_left]; exact hk)
theorem z_DL {A : Nat → Prop} {a b : va_W} (h : va_D A (a ++ b)) : va_D A a := ⟨fun i j p q hp hq e => h.1 i j p q (by rw [List.getElem?_append_left (List.getElem?_eq_some_iff.mp hp).1]; exact hp) (by rw [List.getElem?_append_left (List.getElem?_eq_some_iff.mp hq).1]; exact hq) e, fun k q hk => h.2 k q (by rw [List.getElem?_append_left (List.getElem?_eq_some_iff.mp hk).1]; exact hk)⟩
theorem z_DR {A : Nat → Prop} {a b : va_W} (h : va_D A (a ++ b)) : va_D A b := ⟨fun i j p q hp hq e => by
    have := h.1 (a.length + i) (a.length + j) p q (by rw [List.getElem?_append_right (by omega), Nat.add_sub_cancel_left]; exact hp) (by rw [List.getElem?_append_right (by omega), Nat.add_sub_cancel_left]; exact hq) e
    omega, fun k q hk => h.2 (a.length + k) q (by rw [List.getElem?_append_right (by omega), Nat.add_sub_cancel_left]; exact hk)⟩
theorem z_two {A : Nat → Prop} {D : va_G} {cl : List vw_C} {a b : va_W} {H H1 : Heap} (hP : va_P D cl (a ++ b) H) (hD : va_D A (a ++ b)) (hk : ∀ q : Nat, q < H.size → ¬ va_A a H.size q → H1[q]? = H[q]?) : va_P D cl b H1 := by
  refine (z_PR hP).kept (fun k q hq => hk q.1 (z_PR hP k q hq).lt (fun h => ?_))
  have hlt := (z_PR hP k q hq).lt
  rcases h with ⟨j, e, h⟩ | h
  · have hj := (List.getElem?_eq_some_iff.mp h).1
    have := hD.1 j (a.length + k) (q.1, e) q (by rw [List.getElem?_append_left hj]; exact h) (by rw [List.getElem?_append_right (by omega), Nat.add_sub_cancel_left]; exact hq) rfl
    omega
  · omega
theorem z_arrK {s : State} {args : Array Value} {ty : FieldType} (h : (Cond.arrayClass ty).before args s = true) : ∃ c : ClassId, ArrOfT s c ty ∧ s.vm.findClass ("[" ++ ty.toString) = some c := by
  obtain ⟨c, kc, comp, h1, h2, h3⟩ := Cond.arrayClass_spec h
  exact ⟨c, fun n z => ⟨fun k h => (by cases h), kc, h2, comp, h3⟩, h1⟩
theorem z_arrO {s : State} {args : Array Value} {C : String} (h : (Cond.arrayOver (.object C)).before args s = true) : ∃ c : ClassId, ArrOfT s c (.object C) ∧ va_RA s c (.object C) := by
  obtain ⟨comp, c, kc, h1, -, h2, h3, h4⟩ := Cond.arrayOver_spec h
  exact ⟨c, fun n z => ⟨fun k h => (by cases h), kc, h2, comp, h3⟩, kc, comp, h2, h3, h1, h4⟩
section
variable {p : Program} {l : Launch} {e : Env} {R : Room} {s : State} {m : MethodId} {args : Array Value} {below : List Frame} {meth : Method} {c : Code} {H H0 : Heap} {locs : List Loc} {cells slots mc ms : Nat} {Q : State → Prop} {pc : Nat} {ls : Array Slot} {rest st0 : List Value} {a : Array Value} {A : Nat → Prop} {dC : Nat → ClassId} {dI : Nat → Nat → Nat} {wx wm : va_W}
theorem zc2_i {S : Type} {post : Int32 → S → Prop} {w1 : S → va_W} (hr : va_Run p l e R s m args below meth c H locs cells slots mc ms (F0 m pc ls st0) rest (va_Qi post (fun u t => zPost dC dI (va_A wx H.size) (w1 u) t) (va_A wx H.size) a) (va_A wx H.size)) (hP : va_P (dC, dI) vwCl (wx ++ wm) H) (hD : va_D A (wx ++ wm)) (hS : va_S A H0 H locs) (hA : ∀ q, H0.size ≤ q → A q) (kk : ∀ (r : Int32) (u : S) (H1 : Heap) (locs1 : List Loc), post r u → va_P (dC, dI) vwCl wm H1 → va_D A wm → va_S A H0 H1 locs1 → W p l e R s m args below meth c H1 locs1 (cells + mc) (slots + ms) Q (F0 m (pc + 3) ls (.int r :: rest))) : W p l e R s m args below meth c H locs cells slots Q (F0 m pc ls st0) := by
  have hFc : ∀ q, va_A wx H.size q → A q := fun q h => by
    rcases h with ⟨k, e, h⟩ | h
    · exact (z_DL hD).2 k _ h
    · exact hA q (Nat.le_trans hS.1 h)
  refine va_calli hr hS (fun q _ h => hFc q h) hFc (fun r u t H1 locs ht hvm hw hB hz1 hk1 hS => ?_)
  exact kk r u H1 locs hw (z_two hP hD hk1) (z_DR hD) hS
theorem zc2_l {S : Type} {post : Int64 → S → Prop} {w1 : S → va_W} (hr : va_Run p l e R s m args below meth c H locs cells slots mc ms (F0 m pc ls st0) rest (va_Ql post (fun u t => zPost dC dI (va_A wx H.size) (w1 u) t) (va_A wx H.size) a) (va_A wx H.size)) (hP : va_P (dC, dI) vwCl (wx ++ wm) H) (hD : va_D A (wx ++ wm)) (hS : va_S A H0 H locs) (hA : ∀ q, H0.size ≤ q → A q) (kk : ∀ (r : Int64) (u : S) (H1 : Heap) (locs1 : List Loc), post r u → va_P (dC, dI) vwCl wm H1 → va_D A wm → va_S A H0 H1 locs1 → W p l e R s m args below meth c H1 locs1 (cells + mc) (slots + ms) Q (F0 m (pc + 3) ls (.long r :: rest))) : W p l e R s m args below meth c H locs cells slots Q (F0 m pc ls st0) := by
  have hFc : ∀ q, va_A wx H.size q → A q := fun q h => by
    rcases h with ⟨k, e, h⟩ | h
    · exact (z_DL hD).2 k _ h
    · exact hA q (Nat.le_trans hS.1 h)
  refine va_calll hr hS (fun q _ h => hFc q h) hFc (fun r u t H1 locs ht hvm hw hB hz1 hk1 hS => ?_)
  exact kk r u H1 locs hw (z_two hP hD hk1) (z_DR hD) hS
end
set_option maxHeartbeats 4000000 in
set_option maxRecDepth 100000 in
theorem lw_end {p : Program} {l : Launch} {e : Env} {s : State} {m : MethodId} {below : List Frame} {meth : Method} {c : Code} {b : Nat} {xs : Nat → Int32} {q q2 : Nat → Nat} (C0 : lw_At p s m meth c b 6 xs) {H : Heap} {locs : List Loc} (hS : va_S (fun a : Nat => s.heap.size ≤ a) s.heap H locs) {ls : Array Slot} (hl : lv_has ls 4 [(3, .int 0), (2, .ref (q2 0)), (1, .ref (q 0)), (0, .ref b)]) : W p l e room_1 s m #[Value.ref b] below meth c H locs 1000 10000 (lw_Z below #[Value.ref b] s) (F0 m 1527 ls []) := by
  obtain ⟨hx, hb, hr, hml, hown, hts, hX, hbl, hlocks, hgv⟩ := C0
  have hbA : ¬ (fun a : Nat => s.heap.size ≤ a) b := Nat.not_le.mpr hbl
  refine lv_iinc (v := 6) (lv' := [(3, .int 6), (2, .ref (q2 0)), (1, .ref (q 0)), (0, .ref b)]) hx hb dL_law_1527 hl (k := 0) rfl (by decide) (by decide) rfl (fun ls hl => ?_)
  refine lv_goto (tgt := 18) hx hb dL_law_1530 (by decide) ?_
  refine lv_iload_n hx hb dL_law_18 rfl (lv_at hl 0 rfl) ?_
  refine lv_aload_n hx hb dL_law_19 rfl (lv_at hl 3 rfl) ?_
  refine va_slen hx hb hX hbl hbA hS dL_law_20 ?_
  refine lv_bipush (v := 6) hx hb dL_law_21 (by decide) ?_
  refine lv_isub hx hb dL_law_23 ?_
  refine lv_icmp_gt (tgt := 1533) hx hb dL_law_24 (by decide) (fun c_1 => ?_) (fun c_1 => ?_)
  · refine lv_iconst (v := 1) hx hb dL_law_1533 (by decide) ?_
    refine va_forget (fun q hq => hS.2.2 q hq) ?_
    refine W.widen (k := 600000) (n := 7302250) (by decide) (by decide) ?_
    exact lw_ret hx hb hr hlocks dL_law_1534
  · exact absurd (by decide) c_1
