noncomputable def zsetC : List Nat → va_W → va_W → va_W := fun is => List.rec (motive := fun _ => va_W → va_W → va_W) (fun _ w => w) (fun i _ f cs w => match cs with | [] => w | c :: cs => f cs (w.set i c)) is
noncomputable def zset (w : va_W) (is : List Nat) (cs : va_W) : va_W := zsetC is cs w
theorem zset_n (w cs : va_W) : zset w [] cs = w := rfl
theorem zset_c (w cs : va_W) (i : Nat) (is : List Nat) (c : Nat × va_E) : zset w (i :: is) (c :: cs) = zset (w.set i c) is cs := rfl
theorem zset_adr : ∀ (is : List Nat) (cs w : va_W), is.map (fun i => (w.map Prod.fst)[i]?) = cs.map (fun c => some c.1) → (zset w is cs).map Prod.fst = w.map Prod.fst
  | [], _, _, _ => rfl
  | _ :: _, [], _, h => by cases h
  | i :: is, c :: cs, w, h => by
    rw [List.map_cons, List.map_cons, List.cons.injEq] at h
    have e : (w.set i c).map Prod.fst = w.map Prod.fst := by
      rw [List.map_set]
      apply List.ext_getElem?
      intro j
      rw [List.getElem?_set]
      by_cases q : i = j
      · subst q
        rw [if_pos rfl]
        split
        · exact h.1.symm
        · rename_i q2
          rw [List.getElem?_eq_none (by omega)]
      · rw [if_neg q]
    rw [zset_c, zset_adr is cs (w.set i c) (by rw [e]; exact h.2), e]
theorem zset_at {P : Nat × va_E → Prop} : ∀ (is : List Nat) (cs w : va_W), (∀ (k : Nat) (x : Nat × va_E), w[k]? = some x → k ∉ is → P x) → (∀ c ∈ cs, P c) → is.length ≤ cs.length → ∀ (k : Nat) (x : Nat × va_E), (zset w is cs)[k]? = some x → P x
  | [], _, _, ha, _, _ => fun k x h => ha k x h (by simp)
  | _ :: _, [], _, _, _, hl => by simp at hl
  | i :: is, c :: cs, w, ha, hb, hl => by
    intro k x h
    rw [zset_c] at h
    refine zset_at is cs (w.set i c) (fun k x hx hk => ?_) (fun c hc => hb c (List.mem_cons_of_mem _ hc)) (by simpa using hl) k x h
    rw [List.getElem?_set] at hx
    by_cases q : i = k
    · rw [if_pos q] at hx
      split at hx
      · cases hx
        exact hb c List.mem_cons_self
      · cases hx
    · rw [if_neg q] at hx
      exact ha k x hx (by simp [Ne.symm q, hk])
theorem va_D_adr {A : Nat → Prop} {w w2 : va_W} (e : w2.map Prod.fst = w.map Prod.fst) (h : va_D A w) : va_D A w2 := by
  have key : ∀ (i : Nat) (p : Nat × va_E), w2[i]? = some p → ∃ q : Nat × va_E, w[i]? = some q ∧ q.1 = p.1 := by
    intro i p hp
    have h1 : (w2.map Prod.fst)[i]? = some p.1 := by rw [List.getElem?_map, hp]; rfl
    rw [e, List.getElem?_map] at h1
    cases hq : w[i]? with
    | none => rw [hq] at h1; cases h1
    | some q => rw [hq] at h1; exact ⟨q, rfl, Option.some.inj h1⟩
  refine ⟨fun i j p q hp hq hpq => ?_, fun k q hk => ?_⟩
  · obtain ⟨p2, a1, a2⟩ := key i p hp
    obtain ⟨q2, b1, b2⟩ := key j q hq
    exact h.1 i j p2 q2 a1 b1 (by rw [a2, b2, hpq])
  · obtain ⟨q2, b1, b2⟩ := key k q hk
    rw [← b2]
    exact h.2 k q2 b1
theorem z_back {A : Nat → Prop} {D : va_G} {cl : List vw_C} {w wc w1 : va_W} {H H1 : Heap} (hP : va_P D cl w H) (hD : va_D A w) (isC : List Nat) (hC : isC.map (fun i => w[i]?) = wc.map some) (hadr : w1.map Prod.fst = wc.map Prod.fst) (hk : ∀ q : Nat, q < H.size → ¬ va_A wc H.size q → H1[q]? = H[q]?) (hP1 : va_P D cl w1 H1) : va_P D cl (zset w isC w1) H1 ∧ va_D A (zset w isC w1) := by
  have hlen : isC.length = wc.length := by
    have := congrArg List.length hC
    simpa using this
  have hl1 : w1.length = wc.length := by
    have := congrArg List.length hadr
    simpa using this
  have hidx : ∀ (j : Nat) (x : Nat × va_E), wc[j]? = some x → ∃ i, isC[j]? = some i ∧ w[i]? = some x := by
    intro j x hx
    have h1 : (isC.map (fun i => w[i]?))[j]? = some (some x) := by rw [hC, List.getElem?_map, hx]; rfl
    rw [List.getElem?_map] at h1
    cases hi : isC[j]? with
    | none => rw [hi] at h1; cases h1
    | some i => rw [hi] at h1; exact ⟨i, rfl, Option.some.inj h1⟩
  constructor
  · refine zset_at (P := fun x => va_at D cl x H1) isC w1 w (fun k x hx hkn => ?_) (fun c hc => ?_) (by omega)
    · have hlt := (hP k x hx).lt
      refine (hP k x hx).kept (hk x.1 hlt (fun hA => ?_))
      rcases hA with ⟨j, ee, hj⟩ | hA
      · obtain ⟨i, hi, hwi⟩ := hidx j _ hj
        have : k = i := hD.1 k i x _ hx hwi rfl
        subst this
        exact hkn (List.mem_of_getElem? hi)
      · omega
    · obtain ⟨j, hj⟩ := List.getElem?_of_mem hc
      exact hP1 j c hj
  · refine va_D_adr (zset_adr isC w1 w ?_) hD
    apply List.ext_getElem?
    intro j
    rw [List.getElem?_map, List.getElem?_map]
    by_cases hj : j < wc.length
    · obtain ⟨x, hx⟩ : ∃ x, wc[j]? = some x := ⟨wc[j], List.getElem?_eq_getElem hj⟩
      obtain ⟨i, hi, hwi⟩ := hidx j x hx
      obtain ⟨y, hy⟩ : ∃ y, w1[j]? = some y := ⟨w1[j]'(by omega), List.getElem?_eq_getElem (by omega)⟩
      have e1 : y.1 = x.1 := by
        have h1 : (w1.map Prod.fst)[j]? = (wc.map Prod.fst)[j]? := by rw [hadr]
        rw [List.getElem?_map, List.getElem?_map, hx, hy] at h1
        exact Option.some.inj h1
      rw [hi, hy]
      simp only [Option.map_some, Option.some.injEq]
      rw [List.getElem?_map, hwi, e1]
      rfl
    · rw [List.getElem?_eq_none (by omega), List.getElem?_eq_none (by omega)]
      rfl
section
variable {p : Program} {l : Launch} {e : Env} {R : Room} {s : State} {m : MethodId} {args : Array Value} {below : List Frame} {meth : Method} {c : Code} {H H0 : Heap} {locs : List Loc} {cells slots mc ms : Nat} {Q : State → Prop} {pc : Nat} {ls : Array Slot} {rest st0 : List Value} {a : Array Value} {A : Nat → Prop} {dC : Nat → ClassId} {dI : Nat → Nat → Nat} {k : Nat → ClassId} {T : List (ClassId × FieldType)} {w wc : va_W}
theorem zpA_S {A2 : Nat → Prop} {av : List Value} (hK : zK dC dI k T s) (hP : va_P (dC, dI) vwCl w H) (hD : va_D A2 w) : PreS s H (va_Pc av (zPre dC dI k T w H.size)) av := ⟨fun a U g mk q => by
    obtain ⟨q0, q1, qP, qK, qD⟩ := q
    exact ⟨q0, q1, qP, ⟨va_K.moved (u := U) (U := U.calling g mk a) (Vm.Alike.refl U.vm) qK.1, zN_same (u := U) (U := U.calling g mk a) rfl qK.2⟩, qD⟩, fun U hU hW => ⟨rfl, by rw [hU], by rw [hU]; exact hP, ⟨va_K.moved hW.alike hK.1, zN_warm hW hK.2⟩, hD.weaken (fun _ _ _ _ => trivial)⟩⟩
theorem zpA_V {A2 : Nat → Prop} {b : Nat} {As : List Value} {ci q0 : Nat} {q : vw_C} {fs : List Value} (hK : zK dC dI k T s) (hP : va_P (dC, dI) vwCl w H) (hD : va_D A2 w) (hc : vwCl[ci]? = some q) (he : w[q0]? = some (b, .inr (ci, fs))) : PreV s H q.1 b (va_Pc (.ref b :: As) (zPre dC dI k T w H.size)) As := ⟨(zpA_S hK hP hD).1, va_recv hK.1 hP hc he, (zpA_S hK hP hD).2⟩
theorem zp0_S {av : List Value} (hK : zK dC dI k T s) : PreS s H (va_Pc av (zPre dC dI k T [] H.size)) av := zpA_S (A2 := fun _ => True) hK (fun k q h => by simp at h) ⟨fun i j p q h => by simp at h, fun k q h => by simp at h⟩
theorem zcA_i {S : Type} {post : Int32 → S → Prop} {w1 : S → va_W} (hr : va_Run p l e R s m args below meth c H locs cells slots mc ms (F0 m pc ls st0) rest (va_Qi post (fun u t => zPost dC dI (va_A w H.size) (w1 u) t) (va_A w H.size) a) (va_A w H.size)) (hD : va_D A w) (hS : va_S A H0 H locs) (hA : ∀ q, H0.size ≤ q → A q) (kk : ∀ (r : Int32) (u : S) (H1 : Heap) (locs1 : List Loc), post r u → va_P (dC, dI) vwCl (w1 u) H1 → va_D A (w1 u) → va_S A H0 H1 locs1 → W p l e R s m args below meth c H1 locs1 (cells + mc) (slots + ms) Q (F0 m (pc + 3) ls (.int r :: rest))) : W p l e R s m args below meth c H locs cells slots Q (F0 m pc ls st0) := by
  have hFc : ∀ q, va_A w H.size q → A q := fun q h => by
    rcases h with ⟨k, e, h⟩ | h
    · exact hD.2 k _ h
    · exact hA q (Nat.le_trans hS.1 h)
  refine va_calli hr hS (fun q _ h => hFc q h) hFc (fun r u t H1 locs ht hvm hw hB hz1 hk1 hS => ?_)
  obtain ⟨hP1, hD1⟩ := hB
  rw [ht] at hP1
  exact kk r u H1 locs hw hP1 (hD1.weaken (fun _ q _ h => hFc q.1 h)) hS
theorem zc0_i {S : Type} {post : Int32 → S → Prop} (hr : va_Run p l e R s m args below meth c H locs cells slots mc ms (F0 m pc ls st0) rest (va_Qi post (fun u t => zPost dC dI (va_A [] H.size) ([]) t) (va_A [] H.size) a) (va_A [] H.size)) (hP : va_P (dC, dI) vwCl w H) (hS : va_S A H0 H locs) (hA : ∀ q, H0.size ≤ q → A q) (kk : ∀ (r : Int32) (u : S) (H1 : Heap) (locs1 : List Loc), post r u → va_P (dC, dI) vwCl w H1 → va_S A H0 H1 locs1 → W p l e R s m args below meth c H1 locs1 (cells + mc) (slots + ms) Q (F0 m (pc + 3) ls (.int r :: rest))) : W p l e R s m args below meth c H locs cells slots Q (F0 m pc ls st0) := by
  have hFc : ∀ q, va_A [] H.size q → A q := fun q h => by
    rcases h with ⟨k, e, h⟩ | h
    · simp at h
    · exact hA q (Nat.le_trans hS.1 h)
  refine va_calli hr hS (fun q _ h => hFc q h) hFc (fun r u t H1 locs ht hvm hw hB hz1 hk1 hS => ?_)
  refine kk r u H1 locs hw (hP.kept (fun k q hk => hk1 q.1 (hP k q hk).lt (fun h => ?_))) hS
  have hlt := (hP k q hk).lt
  rcases h with ⟨j, e, h⟩ | h
  · simp at h
  · omega
theorem zcS_i {S : Type} {post : Int32 → S → Prop} {w1 : S → va_W} (hr : va_Run p l e R s m args below meth c H locs cells slots mc ms (F0 m pc ls st0) rest (va_Qi post (fun u t => zPost dC dI (va_A wc H.size) (w1 u) t) (va_A wc H.size) a) (va_A wc H.size)) (hP : va_P (dC, dI) vwCl w H) (hD : va_D A w) (hS : va_S A H0 H locs) (hA : ∀ q, H0.size ≤ q → A q) (isC : List Nat) (hC : isC.map (fun i => w[i]?) = wc.map some) (hadr : ∀ u, (w1 u).map Prod.fst = wc.map Prod.fst) (kk : ∀ (r : Int32) (u : S) (H1 : Heap) (locs1 : List Loc), post r u → va_P (dC, dI) vwCl (zset w isC (w1 u)) H1 → va_D A (zset w isC (w1 u)) → va_S A H0 H1 locs1 → W p l e R s m args below meth c H1 locs1 (cells + mc) (slots + ms) Q (F0 m (pc + 3) ls (.int r :: rest))) : W p l e R s m args below meth c H locs cells slots Q (F0 m pc ls st0) := by
  have hFc := va_free (wc := wc) hD hS hA isC hC
  refine va_calli hr hS (fun q _ h => hFc q h) hFc (fun r u t H1 locs ht hvm hw hB hz1 hk1 hS => ?_)
  obtain ⟨hP1, hD1⟩ := hB
  rw [ht] at hP1
  obtain ⟨hP2, hD2⟩ := z_back hP hD isC hC (hadr u) hk1 hP1
  exact kk r u H1 locs hw hP2 hD2 hS
theorem zcA_l {S : Type} {post : Int64 → S → Prop} {w1 : S → va_W} (hr : va_Run p l e R s m args below meth c H locs cells slots mc ms (F0 m pc ls st0) rest (va_Ql post (fun u t => zPost dC dI (va_A w H.size) (w1 u) t) (va_A w H.size) a) (va_A w H.size)) (hD : va_D A w) (hS : va_S A H0 H locs) (hA : ∀ q, H0.size ≤ q → A q) (kk : ∀ (r : Int64) (u : S) (H1 : Heap) (locs1 : List Loc), post r u → va_P (dC, dI) vwCl (w1 u) H1 → va_D A (w1 u) → va_S A H0 H1 locs1 → W p l e R s m args below meth c H1 locs1 (cells + mc) (slots + ms) Q (F0 m (pc + 3) ls (.long r :: rest))) : W p l e R s m args below meth c H locs cells slots Q (F0 m pc ls st0) := by
  have hFc : ∀ q, va_A w H.size q → A q := fun q h => by
    rcases h with ⟨k, e, h⟩ | h
    · exact hD.2 k _ h
    · exact hA q (Nat.le_trans hS.1 h)
  refine va_calll hr hS (fun q _ h => hFc q h) hFc (fun r u t H1 locs ht hvm hw hB hz1 hk1 hS => ?_)
  obtain ⟨hP1, hD1⟩ := hB
  rw [ht] at hP1
  exact kk r u H1 locs hw hP1 (hD1.weaken (fun _ q _ h => hFc q.1 h)) hS
theorem zc0_l {S : Type} {post : Int64 → S → Prop} (hr : va_Run p l e R s m args below meth c H locs cells slots mc ms (F0 m pc ls st0) rest (va_Ql post (fun u t => zPost dC dI (va_A [] H.size) ([]) t) (va_A [] H.size) a) (va_A [] H.size)) (hP : va_P (dC, dI) vwCl w H) (hS : va_S A H0 H locs) (hA : ∀ q, H0.size ≤ q → A q) (kk : ∀ (r : Int64) (u : S) (H1 : Heap) (locs1 : List Loc), post r u → va_P (dC, dI) vwCl w H1 → va_S A H0 H1 locs1 → W p l e R s m args below meth c H1 locs1 (cells + mc) (slots + ms) Q (F0 m (pc + 3) ls (.long r :: rest))) : W p l e R s m args below meth c H locs cells slots Q (F0 m pc ls st0) := by
  have hFc : ∀ q, va_A [] H.size q → A q := fun q h => by
    rcases h with ⟨k, e, h⟩ | h
    · simp at h
    · exact hA q (Nat.le_trans hS.1 h)
  refine va_calll hr hS (fun q _ h => hFc q h) hFc (fun r u t H1 locs ht hvm hw hB hz1 hk1 hS => ?_)
  refine kk r u H1 locs hw (hP.kept (fun k q hk => hk1 q.1 (hP k q hk).lt (fun h => ?_))) hS
  have hlt := (hP k q hk).lt
  rcases h with ⟨j, e, h⟩ | h
  · simp at h
  · omega
theorem zcS_l {S : Type} {post : Int64 → S → Prop} {w1 : S → va_W} (hr : va_Run p l e R s m args below meth c H locs cells slots mc ms (F0 m pc ls st0) rest (va_Ql post (fun u t => zPost dC dI (va_A wc H.size) (w1 u) t) (va_A wc H.size) a) (va_A wc H.size)) (hP : va_P (dC, dI) vwCl w H) (hD : va_D A w) (hS : va_S A H0 H locs) (hA : ∀ q, H0.size ≤ q → A q) (isC : List Nat) (hC : isC.map (fun i => w[i]?) = wc.map some) (hadr : ∀ u, (w1 u).map Prod.fst = wc.map Prod.fst) (kk : ∀ (r : Int64) (u : S) (H1 : Heap) (locs1 : List Loc), post r u → va_P (dC, dI) vwCl (zset w isC (w1 u)) H1 → va_D A (zset w isC (w1 u)) → va_S A H0 H1 locs1 → W p l e R s m args below meth c H1 locs1 (cells + mc) (slots + ms) Q (F0 m (pc + 3) ls (.long r :: rest))) : W p l e R s m args below meth c H locs cells slots Q (F0 m pc ls st0) := by
  have hFc := va_free (wc := wc) hD hS hA isC hC
  refine va_calll hr hS (fun q _ h => hFc q h) hFc (fun r u t H1 locs ht hvm hw hB hz1 hk1 hS => ?_)
  obtain ⟨hP1, hD1⟩ := hB
  rw [ht] at hP1
  obtain ⟨hP2, hD2⟩ := z_back hP hD isC hC (hadr u) hk1 hP1
  exact kk r u H1 locs hw hP2 hD2 hS
theorem zcA_v {S : Type} {post : S → Prop} {w1 : S → va_W} (hr : va_Run p l e R s m args below meth c H locs cells slots mc ms (F0 m pc ls st0) rest (va_Qv post (fun u t => zPost dC dI (va_A w H.size) (w1 u) t) (va_A w H.size) a) (va_A w H.size)) (hD : va_D A w) (hS : va_S A H0 H locs) (hA : ∀ q, H0.size ≤ q → A q) (kk : ∀ (u : S) (H1 : Heap) (locs1 : List Loc), post u → va_P (dC, dI) vwCl (w1 u) H1 → va_D A (w1 u) → va_S A H0 H1 locs1 → W p l e R s m args below meth c H1 locs1 (cells + mc) (slots + ms) Q (F0 m (pc + 3) ls rest)) : W p l e R s m args below meth c H locs cells slots Q (F0 m pc ls st0) := by
  have hFc : ∀ q, va_A w H.size q → A q := fun q h => by
    rcases h with ⟨k, e, h⟩ | h
    · exact hD.2 k _ h
    · exact hA q (Nat.le_trans hS.1 h)
  refine va_callv hr hS (fun q _ h => hFc q h) hFc (fun u t H1 locs ht hvm hw hB hz1 hk1 hS => ?_)
  obtain ⟨hP1, hD1⟩ := hB
  rw [ht] at hP1
  exact kk u H1 locs hw hP1 (hD1.weaken (fun _ q _ h => hFc q.1 h)) hS
theorem zc0_v {S : Type} {post : S → Prop} (hr : va_Run p l e R s m args below meth c H locs cells slots mc ms (F0 m pc ls st0) rest (va_Qv post (fun u t => zPost dC dI (va_A [] H.size) ([]) t) (va_A [] H.size) a) (va_A [] H.size)) (hP : va_P (dC, dI) vwCl w H) (hS : va_S A H0 H locs) (hA : ∀ q, H0.size ≤ q → A q) (kk : ∀ (u : S) (H1 : Heap) (locs1 : List Loc), post u → va_P (dC, dI) vwCl w H1 → va_S A H0 H1 locs1 → W p l e R s m args below meth c H1 locs1 (cells + mc) (slots + ms) Q (F0 m (pc + 3) ls rest)) : W p l e R s m args below meth c H locs cells slots Q (F0 m pc ls st0) := by
  have hFc : ∀ q, va_A [] H.size q → A q := fun q h => by
    rcases h with ⟨k, e, h⟩ | h
    · simp at h
    · exact hA q (Nat.le_trans hS.1 h)
  refine va_callv hr hS (fun q _ h => hFc q h) hFc (fun u t H1 locs ht hvm hw hB hz1 hk1 hS => ?_)
  refine kk u H1 locs hw (hP.kept (fun k q hk => hk1 q.1 (hP k q hk).lt (fun h => ?_))) hS
  have hlt := (hP k q hk).lt
  rcases h with ⟨j, e, h⟩ | h
  · simp at h
  · omega
theorem zcS_v {S : Type} {post : S → Prop} {w1 : S → va_W} (hr : va_Run p l e R s m args below meth c H locs cells slots mc ms (F0 m pc ls st0) rest (va_Qv post (fun u t => zPost dC dI (va_A wc H.size) (w1 u) t) (va_A wc H.size) a) (va_A wc H.size)) (hP : va_P (dC, dI) vwCl w H) (hD : va_D A w) (hS : va_S A H0 H locs) (hA : ∀ q, H0.size ≤ q → A q) (isC : List Nat) (hC : isC.map (fun i => w[i]?) = wc.map some) (hadr : ∀ u, (w1 u).map Prod.fst = wc.map Prod.fst) (kk : ∀ (u : S) (H1 : Heap) (locs1 : List Loc), post u → va_P (dC, dI) vwCl (zset w isC (w1 u)) H1 → va_D A (zset w isC (w1 u)) → va_S A H0 H1 locs1 → W p l e R s m args below meth c H1 locs1 (cells + mc) (slots + ms) Q (F0 m (pc + 3) ls rest)) : W p l e R s m args below meth c H locs cells slots Q (F0 m pc ls st0) := by
  have hFc := va_free (wc := wc) hD hS hA isC hC
  refine va_callv hr hS (fun q _ h => hFc q h) hFc (fun u t H1 locs ht hvm hw hB hz1 hk1 hS => ?_)
  obtain ⟨hP1, hD1⟩ := hB
  rw [ht] at hP1
  obtain ⟨hP2, hD2⟩ := z_back hP hD isC hC (hadr u) hk1 hP1
  exact kk u H1 locs hw hP2 hD2 hS
end
