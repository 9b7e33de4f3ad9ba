theorem z_PL {D : va_G} {cl : List vw_C} {a b : va_W} {H : Heap} (h : va_P D cl (a ++ b) H) : va_P D cl a H := fun k q hk => h k q (by rw [List.getElem?_append_left (List.getElem?_eq_some_iff.mp hk).1]; exact hk)
theorem z_PR {D : va_G} {cl : List vw_C} {a b : va_W} {H : Heap} (h : va_P D cl (a ++ b) H) : va_P D cl b H := fun k q hk => h (a.length + k) q (by rw [List.getElem?_append_right (by omega), Nat.add_sub_cancel_left]; exact hk)
theorem z_DL {A : Nat → Prop} {a b : va_W} (h : va_D A (a ++ b)) : va_D A a := ⟨fun i j p q hp hq e => h.1 i j p q (by rw [List.getElem?_append_left (List.getElem?_eq_some_iff.mp hp).1]; exact hp) (by rw [List.getElem?_append_left (List.getElem?_eq_some_iff.mp hq).1]; exact hq) e, fun k q hk => h.2 k q (by rw [List.getElem?_append_left (List.getElem?_eq_some_iff.mp hk).1]; exact hk)⟩
theorem z_DR {A : Nat → Prop} {a b : va_W} (h : va_D A (a ++ b)) : va_D A b := ⟨fun i j p q hp hq e => by
    have := h.1 (a.length + i) (a.length + j) p q (by rw [List.getElem?_append_right (by omega), Nat.add_sub_cancel_left]; exact hp) (by rw [List.getElem?_append_right (by omega), Nat.add_sub_cancel_left]; exact hq) e
    omega, fun k q hk => h.2 (a.length + k) q (by rw [List.getElem?_append_right (by omega), Nat.add_sub_cancel_left]; exact hk)⟩
theorem z_two {A : Nat → Prop} {D : va_G} {cl : List vw_C} {a b : va_W} {H H1 : Heap} (hP : va_P D cl (a ++ b) H) (hD : va_D A (a ++ b)) (hk : ∀ q : Nat, q < H.size → ¬ va_A a H.size q → H1[q]? = H[q]?) : va_P D cl b H1 := by
  refine (z_PR hP).kept (fun k q hq => hk q.1 (z_PR hP k q hq).lt (fun h => ?_))
  have hlt := (z_PR hP k q hq).lt
  rcases h with ⟨j, e, h⟩ | h
  · have hj := (List.getElem?_eq_some_iff.mp h).1
    have := hD.1 j (a.length + k) (q.1, e) q (by rw [List.getElem?_append_left hj]; exact h) (by rw [List.getElem?_append_right (by omega), Nat.add_sub_cancel_left]; exact hq) rfl
    omega
  · omega
theorem z_arrK {s : State} {args : Array Value} {ty : FieldType} (h : (Cond.arrayClass ty).before args s = true) : ∃ c : ClassId, ArrOfT s c ty ∧ s.vm.findClass ("[" ++ ty.toString) = some c := by
  obtain ⟨c, kc, comp, h1, h2, h3⟩ := Cond.arrayClass_spec h
  exact ⟨c, fun n z => ⟨fun k h => (by cases h), kc, h2, comp, h3⟩, h1⟩
theorem z_arrO {s : State} {args : Array Value} {C : String} (h : (Cond.arrayOver (.object C)).before args s = true) : ∃ c : ClassId, ArrOfT s c (.object C) ∧ va_RA s c (.object C) := by
  obtain ⟨comp, c, kc, h1, -, h2, h3, h4⟩ := Cond.arrayOver_spec h
  exact ⟨c, fun n z => ⟨fun k h => (by cases h), kc, h2, comp, h3⟩, kc, comp, h2, h3, h1, h4⟩
theorem z_app {D : va_G} {cl : List vw_C} {a b : va_W} {H : Heap} (ha : va_P D cl a H) (hb : va_P D cl b H) : va_P D cl (a ++ b) H := fun k q hk => by
  by_cases h : k < a.length
  · rw [List.getElem?_append_left h] at hk
    exact ha k q hk
  · rw [List.getElem?_append_right (by omega)] at hk
    exact hb _ q hk
theorem z_twoR {A : Nat → Prop} {D : va_G} {cl : List vw_C} {a b : va_W} {H H1 : Heap} (hP : va_P D cl (a ++ b) H) (hD : va_D A (a ++ b)) (hk : ∀ q : Nat, q < H.size → ¬ va_A b H.size q → H1[q]? = H[q]?) : va_P D cl a H1 := by
  refine (z_PL hP).kept (fun k q hq => hk q.1 (z_PL hP k q hq).lt (fun h => ?_))
  have hlt := (z_PL hP k q hq).lt
  have hka := (List.getElem?_eq_some_iff.mp hq).1
  rcases h with ⟨j, e, h⟩ | h
  · have := hD.1 k (a.length + j) q (q.1, e) (by rw [List.getElem?_append_left hka]; exact hq) (by rw [List.getElem?_append_right (by omega), Nat.add_sub_cancel_left]; exact h) rfl
    omega
  · omega
section
variable {p : Program} {l : Launch} {e : Env} {R : Room} {s : State} {m : MethodId} {args : Array Value} {below : List Frame} {meth : Method} {c : Code} {H H0 : Heap} {locs : List Loc} {cells slots mc ms : Nat} {Q : State → Prop} {pc : Nat} {ls : Array Slot} {rest st0 : List Value} {a : Array Value} {A : Nat → Prop} {dC : Nat → ClassId} {dI : Nat → Nat → Nat} {wx wm : va_W}
theorem zcL_i {S : Type} {post : Int32 → S → Prop} {w1 : S → va_W} (hr : va_Run p l e R s m args below meth c H locs cells slots mc ms (F0 m pc ls st0) rest (va_Qi post (fun u t => zPost dC dI (va_A wx H.size) (w1 u) t) (va_A wx H.size) a) (va_A wx H.size)) (hP : va_P (dC, dI) vwCl (wx ++ wm) H) (hD : va_D A (wx ++ wm)) (hS : va_S A H0 H locs) (hA : ∀ q, H0.size ≤ q → A q) (kk : ∀ (r : Int32) (u : S) (H1 : Heap) (locs1 : List Loc), post r u → va_P (dC, dI) vwCl (w1 u ++ wm) H1 → va_S A H0 H1 locs1 → W p l e R s m args below meth c H1 locs1 (cells + mc) (slots + ms) Q (F0 m (pc + 3) ls (.int r :: rest))) : W p l e R s m args below meth c H locs cells slots Q (F0 m pc ls st0) := by
  have hFc : ∀ q, va_A wx H.size q → A q := fun q h => by
    rcases h with ⟨k, e, h⟩ | h
    · exact (z_DL hD).2 k _ h
    · exact hA q (Nat.le_trans hS.1 h)
  refine va_calli hr hS (fun q _ h => hFc q h) hFc (fun r u t H1 locs ht hvm hw hB hz1 hk1 hS => ?_)
  obtain ⟨hP1, -⟩ := hB
  rw [ht] at hP1
  exact kk r u H1 locs hw (z_app hP1 (z_two hP hD hk1)) hS
theorem zcR_i {S : Type} {post : Int32 → S → Prop} {w1 : S → va_W} (hr : va_Run p l e R s m args below meth c H locs cells slots mc ms (F0 m pc ls st0) rest (va_Qi post (fun u t => zPost dC dI (va_A wm H.size) (w1 u) t) (va_A wm H.size) a) (va_A wm H.size)) (hP : va_P (dC, dI) vwCl (wx ++ wm) H) (hD : va_D A (wx ++ wm)) (hS : va_S A H0 H locs) (hA : ∀ q, H0.size ≤ q → A q) (kk : ∀ (r : Int32) (u : S) (H1 : Heap) (locs1 : List Loc), post r u → va_P (dC, dI) vwCl (wx ++ w1 u) H1 → va_S A H0 H1 locs1 → W p l e R s m args below meth c H1 locs1 (cells + mc) (slots + ms) Q (F0 m (pc + 3) ls (.int r :: rest))) : W p l e R s m args below meth c H locs cells slots Q (F0 m pc ls st0) := by
  have hFc : ∀ q, va_A wm H.size q → A q := fun q h => by
    rcases h with ⟨k, e, h⟩ | h
    · exact (z_DR hD).2 k _ h
    · exact hA q (Nat.le_trans hS.1 h)
  refine va_calli hr hS (fun q _ h => hFc q h) hFc (fun r u t H1 locs ht hvm hw hB hz1 hk1 hS => ?_)
  obtain ⟨hP1, -⟩ := hB
  rw [ht] at hP1
  exact kk r u H1 locs hw (z_app (z_twoR hP hD hk1) hP1) hS
theorem zcL_l {S : Type} {post : Int64 → S → Prop} {w1 : S → va_W} (hr : va_Run p l e R s m args below meth c H locs cells slots mc ms (F0 m pc ls st0) rest (va_Ql post (fun u t => zPost dC dI (va_A wx H.size) (w1 u) t) (va_A wx H.size) a) (va_A wx H.size)) (hP : va_P (dC, dI) vwCl (wx ++ wm) H) (hD : va_D A (wx ++ wm)) (hS : va_S A H0 H locs) (hA : ∀ q, H0.size ≤ q → A q) (kk : ∀ (r : Int64) (u : S) (H1 : Heap) (locs1 : List Loc), post r u → va_P (dC, dI) vwCl (w1 u ++ wm) H1 → va_S A H0 H1 locs1 → W p l e R s m args below meth c H1 locs1 (cells + mc) (slots + ms) Q (F0 m (pc + 3) ls (.long r :: rest))) : W p l e R s m args below meth c H locs cells slots Q (F0 m pc ls st0) := by
  have hFc : ∀ q, va_A wx H.size q → A q := fun q h => by
    rcases h with ⟨k, e, h⟩ | h
    · exact (z_DL hD).2 k _ h
    · exact hA q (Nat.le_trans hS.1 h)
  refine va_calll hr hS (fun q _ h => hFc q h) hFc (fun r u t H1 locs ht hvm hw hB hz1 hk1 hS => ?_)
  obtain ⟨hP1, -⟩ := hB
  rw [ht] at hP1
  exact kk r u H1 locs hw (z_app hP1 (z_two hP hD hk1)) hS
theorem zcR_l {S : Type} {post : Int64 → S → Prop} {w1 : S → va_W} (hr : va_Run p l e R s m args below meth c H locs cells slots mc ms (F0 m pc ls st0) rest (va_Ql post (fun u t => zPost dC dI (va_A wm H.size) (w1 u) t) (va_A wm H.size) a) (va_A wm H.size)) (hP : va_P (dC, dI) vwCl (wx ++ wm) H) (hD : va_D A (wx ++ wm)) (hS : va_S A H0 H locs) (hA : ∀ q, H0.size ≤ q → A q) (kk : ∀ (r : Int64) (u : S) (H1 : Heap) (locs1 : List Loc), post r u → va_P (dC, dI) vwCl (wx ++ w1 u) H1 → va_S A H0 H1 locs1 → W p l e R s m args below meth c H1 locs1 (cells + mc) (slots + ms) Q (F0 m (pc + 3) ls (.long r :: rest))) : W p l e R s m args below meth c H locs cells slots Q (F0 m pc ls st0) := by
  have hFc : ∀ q, va_A wm H.size q → A q := fun q h => by
    rcases h with ⟨k, e, h⟩ | h
    · exact (z_DR hD).2 k _ h
    · exact hA q (Nat.le_trans hS.1 h)
  refine va_calll hr hS (fun q _ h => hFc q h) hFc (fun r u t H1 locs ht hvm hw hB hz1 hk1 hS => ?_)
  obtain ⟨hP1, -⟩ := hB
  rw [ht] at hP1
  exact kk r u H1 locs hw (z_app (z_twoR hP hD hk1) hP1) hS
end
