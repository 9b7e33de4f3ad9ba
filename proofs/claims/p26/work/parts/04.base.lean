abbrev vwCl : List vw_C := [(RX0, TX0, 9), (RX1, TX1, 9), (RX2, TX2, 2), (RX3, TX3, 1), (RX4, TX4, 3), (RX5, TX5, 3), (RX6, TX6, 12), (RX7, TX7, 42)]
/-! words of this proof: the array classes, the nest links, what a contract takes and leaves -/
abbrev zT (k : Nat → ClassId) (T : List (ClassId × FieldType)) : List (ClassId × FieldType) := (k 0, .int) :: (k 1, .long) :: (k 2, .boolean) :: T
def zN (U : State) : Prop := va_Nw (.methodLinkNest RX6 27 yX0_init RX6) U ∧ va_Nw (.methodLinkNest RX6 34 yX4_init RX6) U ∧ va_Nw (.methodLinkNest RX6 41 yX3_init RX6) U ∧ va_Nw (.methodLinkNest RX6 48 yX2_init RX6) U ∧ va_Nw (.methodLinkNest RX6 69 yX1_init RX6) U ∧ va_Nw (.methodLinkNest RX6 70 yX5_init RX6) U ∧ va_Nw (.methodLinkNest RX1 60 yX6_commonDivisor RX6) U ∧ va_Nw (.methodLinkNest RX2 16 yX6_commonDivisor RX6) U
theorem zN_warm {s U : State} (hW : s.WarmedH U.vm) (h : zN s) : zN U := ⟨h.1.warmM hW, h.2.1.warmM hW, h.2.2.1.warmM hW, h.2.2.2.1.warmM hW, h.2.2.2.2.1.warmM hW, h.2.2.2.2.2.1.warmM hW, h.2.2.2.2.2.2.1.warmM hW, h.2.2.2.2.2.2.2.warmM hW⟩
theorem zN_same {u U : State} (e : u.vm = U.vm) (h : zN u) : zN U := ⟨h.1.same rfl e, h.2.1.same rfl e, h.2.2.1.same rfl e, h.2.2.2.1.same rfl e, h.2.2.2.2.1.same rfl e, h.2.2.2.2.2.1.same rfl e, h.2.2.2.2.2.2.1.same rfl e, h.2.2.2.2.2.2.2.same rfl e⟩
def zK (dC : Nat → ClassId) (dI : Nat → Nat → Nat) (k : Nat → ClassId) (T : List (ClassId × FieldType)) (U : State) : Prop := va_K (dC, dI) vwCl (zT k T) U ∧ zN U
def zPre (dC : Nat → ClassId) (dI : Nat → Nat → Nat) (k : Nat → ClassId) (T : List (ClassId × FieldType)) (w : va_W) (sz : Nat) (U : State) : Prop := U.heap.size = sz ∧ va_P (dC, dI) vwCl w U.heap ∧ zK dC dI k T U ∧ va_D (fun _ => True) w
def zPost (dC : Nat → ClassId) (dI : Nat → Nat → Nat) (A : Nat → Prop) (w1 : va_W) (t : State) : Prop := va_P (dC, dI) vwCl w1 t.heap ∧ va_D A w1
theorem z_fm {α β : Type} {f : α → Option β} : ∀ {is : List α} {wc : List β}, is.map f = wc.map some → is.filterMap f = wc
  | [], [], _ => rfl
  | [], _ :: _, h => by cases h
  | _ :: _, [], h => by cases h
  | i :: is, b :: wc, h => by
    rw [List.map_cons, List.map_cons, List.cons.injEq] at h
    rw [List.filterMap_cons_some h.1, z_fm h.2]
section
variable {p : Program} {l : Launch} {e : Env} {R : Room} {s : State} {m : MethodId} {args : Array Value} {below : List Frame} {meth : Method} {c : Code} {H H0 : Heap} {locs : List Loc} {cells slots mc ms : Nat} {Q : State → Prop} {pc : Nat} {ls : Array Slot} {rest st0 : List Value} {a : Array Value} {A : Nat → Prop} {dC : Nat → ClassId} {dI : Nat → Nat → Nat} {k : Nat → ClassId} {T : List (ClassId × FieldType)} {w wc wr : va_W}
theorem zp_S {A2 : Nat → Prop} {av : List Value} (hK : zK dC dI k T s) (hP : va_P (dC, dI) vwCl w H) (hD : va_D A2 w) (is : List Nat) (hC : is.map (fun i => w[i]?) = wc.map some) (hn : va_nd is = true) : PreS s H (va_Pc av (zPre dC dI k T wc H.size)) av := ⟨fun a U g mk q => by
    obtain ⟨q0, q1, qP, qK, qD⟩ := q
    exact ⟨q0, q1, qP, ⟨va_K.moved (u := U) (U := U.calling g mk a) (Vm.Alike.refl U.vm) qK.1, zN_same (u := U) (U := U.calling g mk a) rfl qK.2⟩, qD⟩, fun U hU hW => ⟨rfl, by rw [hU], by rw [hU]; exact hP.sub is (z_fm hC), ⟨va_K.moved hW.alike hK.1, zN_warm hW hK.2⟩, (hD.sub is hn hC).weaken (fun _ _ _ _ => trivial)⟩⟩
theorem zp_V {A2 : Nat → Prop} {b : Nat} {As : List Value} {ci q0 : Nat} {q : vw_C} {fs : List Value} (hK : zK dC dI k T s) (hP : va_P (dC, dI) vwCl w H) (hD : va_D A2 w) (is : List Nat) (hC : is.map (fun i => w[i]?) = wc.map some) (hn : va_nd is = true) (hc : vwCl[ci]? = some q) (he : w[q0]? = some (b, .inr (ci, fs))) : PreV s H q.1 b (va_Pc (.ref b :: As) (zPre dC dI k T wc H.size)) As := ⟨(zp_S hK hP hD is hC hn).1, va_recv hK.1 hP hc he, (zp_S hK hP hD is hC hn).2⟩
theorem zc_i {S : Type} {post : Int32 → S → Prop} {w1 : S → va_W} (hr : va_Run p l e R s m args below meth c H locs cells slots mc ms (F0 m pc ls st0) rest (va_Qi post (fun u t => zPost dC dI (va_A wc H.size) (w1 u) t) (va_A wc H.size) a) (va_A wc H.size)) (hP : va_P (dC, dI) vwCl w H) (hD : va_D A w) (hS : va_S A H0 H locs) (hA : ∀ q, H0.size ≤ q → A q) (isC isR : List Nat) (hC : isC.map (fun i => w[i]?) = wc.map some) (hR : isR.map (fun i => w[i]?) = wr.map some) (hn : va_nd isR = true) (hdis : ∀ i ∈ isR, i ∉ isC)
    (kk : ∀ (r : Int32) (u : S) (H1 : Heap) (locs1 : List Loc), post r u → va_P (dC, dI) vwCl (wr ++ w1 u) H1 → va_D A (wr ++ w1 u) → va_S A H0 H1 locs1 → W p l e R s m args below meth c H1 locs1 (cells + mc) (slots + ms) Q (F0 m (pc + 3) ls (.int r :: rest))) : W p l e R s m args below meth c H locs cells slots Q (F0 m pc ls st0) := by
  have hFc := va_free (wc := wc) hD hS hA isC hC
  refine va_calli hr hS (fun q _ h => hFc q h) hFc (fun r u t H1 locs ht hvm hw hB hz1 hk1 hS => ?_)
  obtain ⟨hP1, hD1⟩ := hB
  rw [ht] at hP1
  obtain ⟨hP2, hD2⟩ := va_join (wr := wr) (w1 := w1 u) hP hD isC isR hC hR hn hdis hk1 hFc hP1 hD1
  exact kk r u H1 locs hw hP2 hD2 hS
theorem zc_l {S : Type} {post : Int64 → S → Prop} {w1 : S → va_W} (hr : va_Run p l e R s m args below meth c H locs cells slots mc ms (F0 m pc ls st0) rest (va_Ql post (fun u t => zPost dC dI (va_A wc H.size) (w1 u) t) (va_A wc H.size) a) (va_A wc H.size)) (hP : va_P (dC, dI) vwCl w H) (hD : va_D A w) (hS : va_S A H0 H locs) (hA : ∀ q, H0.size ≤ q → A q) (isC isR : List Nat) (hC : isC.map (fun i => w[i]?) = wc.map some) (hR : isR.map (fun i => w[i]?) = wr.map some) (hn : va_nd isR = true) (hdis : ∀ i ∈ isR, i ∉ isC)
    (kk : ∀ (r : Int64) (u : S) (H1 : Heap) (locs1 : List Loc), post r u → va_P (dC, dI) vwCl (wr ++ w1 u) H1 → va_D A (wr ++ w1 u) → va_S A H0 H1 locs1 → W p l e R s m args below meth c H1 locs1 (cells + mc) (slots + ms) Q (F0 m (pc + 3) ls (.long r :: rest))) : W p l e R s m args below meth c H locs cells slots Q (F0 m pc ls st0) := by
  have hFc := va_free (wc := wc) hD hS hA isC hC
  refine va_calll hr hS (fun q _ h => hFc q h) hFc (fun r u t H1 locs ht hvm hw hB hz1 hk1 hS => ?_)
  obtain ⟨hP1, hD1⟩ := hB
  rw [ht] at hP1
  obtain ⟨hP2, hD2⟩ := va_join (wr := wr) (w1 := w1 u) hP hD isC isR hC hR hn hdis hk1 hFc hP1 hD1
  exact kk r u H1 locs hw hP2 hD2 hS
theorem zc_v {S : Type} {post : S → Prop} {w1 : S → va_W} (hr : va_Run p l e R s m args below meth c H locs cells slots mc ms (F0 m pc ls st0) rest (va_Qv post (fun u t => zPost dC dI (va_A wc H.size) (w1 u) t) (va_A wc H.size) a) (va_A wc H.size)) (hP : va_P (dC, dI) vwCl w H) (hD : va_D A w) (hS : va_S A H0 H locs) (hA : ∀ q, H0.size ≤ q → A q) (isC isR : List Nat) (hC : isC.map (fun i => w[i]?) = wc.map some) (hR : isR.map (fun i => w[i]?) = wr.map some) (hn : va_nd isR = true) (hdis : ∀ i ∈ isR, i ∉ isC)
    (kk : ∀ (u : S) (H1 : Heap) (locs1 : List Loc), post u → va_P (dC, dI) vwCl (wr ++ w1 u) H1 → va_D A (wr ++ w1 u) → va_S A H0 H1 locs1 → W p l e R s m args below meth c H1 locs1 (cells + mc) (slots + ms) Q (F0 m (pc + 3) ls rest)) : W p l e R s m args below meth c H locs cells slots Q (F0 m pc ls st0) := by
  have hFc := va_free (wc := wc) hD hS hA isC hC
  refine va_callv hr hS (fun q _ h => hFc q h) hFc (fun u t H1 locs ht hvm hw hB hz1 hk1 hS => ?_)
  obtain ⟨hP1, hD1⟩ := hB
  rw [ht] at hP1
  obtain ⟨hP2, hD2⟩ := va_join (wr := wr) (w1 := w1 u) hP hD isC isR hC hR hn hdis hk1 hFc hP1 hD1
  exact kk u H1 locs hw hP2 hD2 hS
theorem z_start (hP : va_P (dC, dI) vwCl w s.heap) (hD : va_D A w) (kk : ∀ (H : Heap) (locs : List Loc), va_P (dC, dI) vwCl w H → va_D A w → va_S A s.heap H locs → W p l e R s m args below meth c H locs cells slots Q (F0 m pc ls rest)) : W p l e R s m args below meth c s.heap [] cells slots Q (F0 m pc ls rest) := kk s.heap [] hP hD va_S.rf
/-- the top of the stack, by another name -/
theorem z_top {v v2 : Value} (h : v = v2) (kk : W p l e R s m args below meth c H locs cells slots Q (F0 m pc ls (v2 :: rest))) : W p l e R s m args below meth c H locs cells slots Q (F0 m pc ls (v :: rest)) := by
  subst h
  exact kk
theorem z_lcmp {cc : ByteArray} (hexec : p.tables.exec = Jvm.exec) (hb : c.code = cc) {x y : Int64} (hdg : decode cc pc = .ok (.lcmp, 1))
    (kk : W p l e R s m args below meth c H locs cells slots Q (F0 m (pc + 1) ls (.int (lg_cmp x y) :: rest))) : W p l e R s m args below meth c H locs cells slots Q (F0 m pc ls (.long y :: .long x :: rest)) := W.lcmp hexec hb hdg kk
end
theorem zi_lt {a b : Int32} : a < b ↔ a.toInt < b.toInt := Int32.lt_iff_toInt_lt
theorem zi_le {a b : Int32} : a ≤ b ↔ a.toInt ≤ b.toInt := Int32.le_iff_toInt_le
theorem zi_eq {a b : Int32} : a = b ↔ a.toInt = b.toInt := ⟨fun h => by rw [h], Int32.toInt_inj.mp⟩
noncomputable def zsetC : List Nat → va_W → va_W → va_W := fun is => List.rec (motive := fun _ => va_W → va_W → va_W) (fun _ w => w) (fun i _ f cs w => match cs with | [] => w | c :: cs => f cs (w.set i c)) is
noncomputable def zset (w : va_W) (is : List Nat) (cs : va_W) : va_W := zsetC is cs w
theorem zset_n (w cs : va_W) : zset w [] cs = w := rfl
theorem zset_c (w cs : va_W) (i : Nat) (is : List Nat) (c : Nat × va_E) : zset w (i :: is) (c :: cs) = zset (w.set i c) is cs := rfl
theorem zset_adr : ∀ (is : List Nat) (cs w : va_W), is.map (fun i => (w.map Prod.fst)[i]?) = cs.map (fun c => some c.1) → (zset w is cs).map Prod.fst = w.map Prod.fst
  | [], _, _, _ => rfl
  | _ :: _, [], _, h => by cases h
  | i :: is, c :: cs, w, h => by
    rw [List.map_cons, List.map_cons, List.cons.injEq] at h
    have e : (w.set i c).map Prod.fst = w.map Prod.fst := by
      rw [List.map_set]
      apply List.ext_getElem?
      intro j
      rw [List.getElem?_set]
      by_cases q : i = j
      · subst q
        rw [if_pos rfl]
        split
        · exact h.1.symm
        · rename_i q2
          rw [List.getElem?_eq_none (by omega)]
      · rw [if_neg q]
    rw [zset_c, zset_adr is cs (w.set i c) (by rw [e]; exact h.2), e]
theorem zset_at {P : Nat × va_E → Prop} : ∀ (is : List Nat) (cs w : va_W), (∀ (k : Nat) (x : Nat × va_E), w[k]? = some x → k ∉ is → P x) → (∀ c ∈ cs, P c) → is.length ≤ cs.length → ∀ (k : Nat) (x : Nat × va_E), (zset w is cs)[k]? = some x → P x
  | [], _, _, ha, _, _ => fun k x h => ha k x h (by simp)
  | _ :: _, [], _, _, _, hl => by simp at hl
  | i :: is, c :: cs, w, ha, hb, hl => by
    intro k x h
    rw [zset_c] at h
    refine zset_at is cs (w.set i c) (fun k x hx hk => ?_) (fun c hc => hb c (List.mem_cons_of_mem _ hc)) (by simpa using hl) k x h
    rw [List.getElem?_set] at hx
    by_cases q : i = k
    · rw [if_pos q] at hx
      split at hx
      · cases hx
        exact hb c List.mem_cons_self
      · cases hx
    · rw [if_neg q] at hx
      exact ha k x hx (by simp [Ne.symm q, hk])
theorem va_D_adr {A : Nat → Prop} {w w2 : va_W} (e : w2.map Prod.fst = w.map Prod.fst) (h : va_D A w) : va_D A w2 := by
  have key : ∀ (i : Nat) (p : Nat × va_E), w2[i]? = some p → ∃ q : Nat × va_E, w[i]? = some q ∧ q.1 = p.1 := by
    intro i p hp
    have h1 : (w2.map Prod.fst)[i]? = some p.1 := by rw [List.getElem?_map, hp]; rfl
    rw [e, List.getElem?_map] at h1
    cases hq : w[i]? with
    | none => rw [hq] at h1; cases h1
    | some q => rw [hq] at h1; exact ⟨q, rfl, Option.some.inj h1⟩
  refine ⟨fun i j p q hp hq hpq => ?_, fun k q hk => ?_⟩
  · obtain ⟨p2, a1, a2⟩ := key i p hp
    obtain ⟨q2, b1, b2⟩ := key j q hq
    exact h.1 i j p2 q2 a1 b1 (by rw [a2, b2, hpq])
  · obtain ⟨q2, b1, b2⟩ := key k q hk
    rw [← b2]
    exact h.2 k q2 b1
theorem z_back {A : Nat → Prop} {D : va_G} {cl : List vw_C} {w wc w1 : va_W} {H H1 : Heap} (hP : va_P D cl w H) (hD : va_D A w) (isC : List Nat) (hC : isC.map (fun i => w[i]?) = wc.map some) (hadr : w1.map Prod.fst = wc.map Prod.fst) (hk : ∀ q : Nat, q < H.size → ¬ va_A wc H.size q → H1[q]? = H[q]?) (hP1 : va_P D cl w1 H1) : va_P D cl (zset w isC w1) H1 ∧ va_D A (zset w isC w1) := by
  have hlen : isC.length = wc.length := by
    have := congrArg List.length hC
    simpa using this
  have hl1 : w1.length = wc.length := by
    have := congrArg List.length hadr
    simpa using this
  have hidx : ∀ (j : Nat) (x : Nat × va_E), wc[j]? = some x → ∃ i, isC[j]? = some i ∧ w[i]? = some x := by
    intro j x hx
    have h1 : (isC.map (fun i => w[i]?))[j]? = some (some x) := by rw [hC, List.getElem?_map, hx]; rfl
    rw [List.getElem?_map] at h1
    cases hi : isC[j]? with
    | none => rw [hi] at h1; cases h1
    | some i => rw [hi] at h1; exact ⟨i, rfl, Option.some.inj h1⟩
  constructor
  · refine zset_at (P := fun x => va_at D cl x H1) isC w1 w (fun k x hx hkn => ?_) (fun c hc => ?_) (by omega)
    · have hlt := (hP k x hx).lt
      refine (hP k x hx).kept (hk x.1 hlt (fun hA => ?_))
      rcases hA with ⟨j, ee, hj⟩ | hA
      · obtain ⟨i, hi, hwi⟩ := hidx j _ hj
        have : k = i := hD.1 k i x _ hx hwi rfl
        subst this
        exact hkn (List.mem_of_getElem? hi)
      · omega
    · obtain ⟨j, hj⟩ := List.getElem?_of_mem hc
      exact hP1 j c hj
  · refine va_D_adr (zset_adr isC w1 w ?_) hD
    apply List.ext_getElem?
    intro j
    rw [List.getElem?_map, List.getElem?_map]
    by_cases hj : j < wc.length
    · obtain ⟨x, hx⟩ : ∃ x, wc[j]? = some x := ⟨wc[j], List.getElem?_eq_getElem hj⟩
      obtain ⟨i, hi, hwi⟩ := hidx j x hx
      obtain ⟨y, hy⟩ : ∃ y, w1[j]? = some y := ⟨w1[j]'(by omega), List.getElem?_eq_getElem (by omega)⟩
      have e1 : y.1 = x.1 := by
        have h1 : (w1.map Prod.fst)[j]? = (wc.map Prod.fst)[j]? := by rw [hadr]
        rw [List.getElem?_map, List.getElem?_map, hx, hy] at h1
        exact Option.some.inj h1
      rw [hi, hy]
      simp only [Option.map_some, Option.some.injEq]
      rw [List.getElem?_map, hwi, e1]
      rfl
    · rw [List.getElem?_eq_none (by omega), List.getElem?_eq_none (by omega)]
      rfl
section
variable {p : Program} {l : Launch} {e : Env} {R : Room} {s : State} {m : MethodId} {args : Array Value} {below : List Frame} {meth : Method} {c : Code} {H H0 : Heap} {locs : List Loc} {cells slots mc ms : Nat} {Q : State → Prop} {pc : Nat} {ls : Array Slot} {rest st0 : List Value} {a : Array Value} {A : Nat → Prop} {dC : Nat → ClassId} {dI : Nat → Nat → Nat} {k : Nat → ClassId} {T : List (ClassId × FieldType)} {w wc : va_W}
theorem zpA_S {A2 : Nat → Prop} {av : List Value} (hK : zK dC dI k T s) (hP : va_P (dC, dI) vwCl w H) (hD : va_D A2 w) : PreS s H (va_Pc av (zPre dC dI k T w H.size)) av := ⟨fun a U g mk q => by
    obtain ⟨q0, q1, qP, qK, qD⟩ := q
    exact ⟨q0, q1, qP, ⟨va_K.moved (u := U) (U := U.calling g mk a) (Vm.Alike.refl U.vm) qK.1, zN_same (u := U) (U := U.calling g mk a) rfl qK.2⟩, qD⟩, fun U hU hW => ⟨rfl, by rw [hU], by rw [hU]; exact hP, ⟨va_K.moved hW.alike hK.1, zN_warm hW hK.2⟩, hD.weaken (fun _ _ _ _ => trivial)⟩⟩
theorem zpA_V {A2 : Nat → Prop} {b : Nat} {As : List Value} {ci q0 : Nat} {q : vw_C} {fs : List Value} (hK : zK dC dI k T s) (hP : va_P (dC, dI) vwCl w H) (hD : va_D A2 w) (hc : vwCl[ci]? = some q) (he : w[q0]? = some (b, .inr (ci, fs))) : PreV s H q.1 b (va_Pc (.ref b :: As) (zPre dC dI k T w H.size)) As := ⟨(zpA_S hK hP hD).1, va_recv hK.1 hP hc he, (zpA_S hK hP hD).2⟩
theorem zp0_S {av : List Value} (hK : zK dC dI k T s) : PreS s H (va_Pc av (zPre dC dI k T [] H.size)) av := zpA_S (A2 := fun _ => True) hK (fun k q h => by simp at h) ⟨fun i j p q h => by simp at h, fun k q h => by simp at h⟩
theorem zcA_i {S : Type} {post : Int32 → S → Prop} {w1 : S → va_W} (hr : va_Run p l e R s m args below meth c H locs cells slots mc ms (F0 m pc ls st0) rest (va_Qi post (fun u t => zPost dC dI (va_A w H.size) (w1 u) t) (va_A w H.size) a) (va_A w H.size)) (hD : va_D A w) (hS : va_S A H0 H locs) (hA : ∀ q, H0.size ≤ q → A q) (kk : ∀ (r : Int32) (u : S) (H1 : Heap) (locs1 : List Loc), post r u → va_P (dC, dI) vwCl (w1 u) H1 → va_D A (w1 u) → va_S A H0 H1 locs1 → W p l e R s m args below meth c H1 locs1 (cells + mc) (slots + ms) Q (F0 m (pc + 3) ls (.int r :: rest))) : W p l e R s m args below meth c H locs cells slots Q (F0 m pc ls st0) := by
  have hFc : ∀ q, va_A w H.size q → A q := fun q h => by
    rcases h with ⟨k, e, h⟩ | h
    · exact hD.2 k _ h
    · exact hA q (Nat.le_trans hS.1 h)
  refine va_calli hr hS (fun q _ h => hFc q h) hFc (fun r u t H1 locs ht hvm hw hB hz1 hk1 hS => ?_)
  obtain ⟨hP1, hD1⟩ := hB
  rw [ht] at hP1
  exact kk r u H1 locs hw hP1 (hD1.weaken (fun _ q _ h => hFc q.1 h)) hS
theorem zc0_i {S : Type} {post : Int32 → S → Prop} (hr : va_Run p l e R s m args below meth c H locs cells slots mc ms (F0 m pc ls st0) rest (va_Qi post (fun u t => zPost dC dI (va_A [] H.size) ([]) t) (va_A [] H.size) a) (va_A [] H.size)) (hP : va_P (dC, dI) vwCl w H) (hS : va_S A H0 H locs) (hA : ∀ q, H0.size ≤ q → A q) (kk : ∀ (r : Int32) (u : S) (H1 : Heap) (locs1 : List Loc), post r u → va_P (dC, dI) vwCl w H1 → va_S A H0 H1 locs1 → W p l e R s m args below meth c H1 locs1 (cells + mc) (slots + ms) Q (F0 m (pc + 3) ls (.int r :: rest))) : W p l e R s m args below meth c H locs cells slots Q (F0 m pc ls st0) := by
  have hFc : ∀ q, va_A [] H.size q → A q := fun q h => by
    rcases h with ⟨k, e, h⟩ | h
    · simp at h
    · exact hA q (Nat.le_trans hS.1 h)
  refine va_calli hr hS (fun q _ h => hFc q h) hFc (fun r u t H1 locs ht hvm hw hB hz1 hk1 hS => ?_)
  refine kk r u H1 locs hw (hP.kept (fun k q hk => hk1 q.1 (hP k q hk).lt (fun h => ?_))) hS
  have hlt := (hP k q hk).lt
  rcases h with ⟨j, e, h⟩ | h
  · simp at h
  · omega
theorem zcS_i {S : Type} {post : Int32 → S → Prop} {w1 : S → va_W} (hr : va_Run p l e R s m args below meth c H locs cells slots mc ms (F0 m pc ls st0) rest (va_Qi post (fun u t => zPost dC dI (va_A wc H.size) (w1 u) t) (va_A wc H.size) a) (va_A wc H.size)) (hP : va_P (dC, dI) vwCl w H) (hD : va_D A w) (hS : va_S A H0 H locs) (hA : ∀ q, H0.size ≤ q → A q) (isC : List Nat) (hC : isC.map (fun i => w[i]?) = wc.map some) (hadr : ∀ u, (w1 u).map Prod.fst = wc.map Prod.fst) (kk : ∀ (r : Int32) (u : S) (H1 : Heap) (locs1 : List Loc), post r u → va_P (dC, dI) vwCl (zset w isC (w1 u)) H1 → va_D A (zset w isC (w1 u)) → va_S A H0 H1 locs1 → W p l e R s m args below meth c H1 locs1 (cells + mc) (slots + ms) Q (F0 m (pc + 3) ls (.int r :: rest))) : W p l e R s m args below meth c H locs cells slots Q (F0 m pc ls st0) := by
  have hFc := va_free (wc := wc) hD hS hA isC hC
  refine va_calli hr hS (fun q _ h => hFc q h) hFc (fun r u t H1 locs ht hvm hw hB hz1 hk1 hS => ?_)
  obtain ⟨hP1, hD1⟩ := hB
  rw [ht] at hP1
  obtain ⟨hP2, hD2⟩ := z_back hP hD isC hC (hadr u) hk1 hP1
  exact kk r u H1 locs hw hP2 hD2 hS
theorem zcA_l {S : Type} {post : Int64 → S → Prop} {w1 : S → va_W} (hr : va_Run p l e R s m args below meth c H locs cells slots mc ms (F0 m pc ls st0) rest (va_Ql post (fun u t => zPost dC dI (va_A w H.size) (w1 u) t) (va_A w H.size) a) (va_A w H.size)) (hD : va_D A w) (hS : va_S A H0 H locs) (hA : ∀ q, H0.size ≤ q → A q) (kk : ∀ (r : Int64) (u : S) (H1 : Heap) (locs1 : List Loc), post r u → va_P (dC, dI) vwCl (w1 u) H1 → va_D A (w1 u) → va_S A H0 H1 locs1 → W p l e R s m args below meth c H1 locs1 (cells + mc) (slots + ms) Q (F0 m (pc + 3) ls (.long r :: rest))) : W p l e R s m args below meth c H locs cells slots Q (F0 m pc ls st0) := by
  have hFc : ∀ q, va_A w H.size q → A q := fun q h => by
    rcases h with ⟨k, e, h⟩ | h
    · exact hD.2 k _ h
    · exact hA q (Nat.le_trans hS.1 h)
  refine va_calll hr hS (fun q _ h => hFc q h) hFc (fun r u t H1 locs ht hvm hw hB hz1 hk1 hS => ?_)
  obtain ⟨hP1, hD1⟩ := hB
  rw [ht] at hP1
  exact kk r u H1 locs hw hP1 (hD1.weaken (fun _ q _ h => hFc q.1 h)) hS
theorem zc0_l {S : Type} {post : Int64 → S → Prop} (hr : va_Run p l e R s m args below meth c H locs cells slots mc ms (F0 m pc ls st0) rest (va_Ql post (fun u t => zPost dC dI (va_A [] H.size) ([]) t) (va_A [] H.size) a) (va_A [] H.size)) (hP : va_P (dC, dI) vwCl w H) (hS : va_S A H0 H locs) (hA : ∀ q, H0.size ≤ q → A q) (kk : ∀ (r : Int64) (u : S) (H1 : Heap) (locs1 : List Loc), post r u → va_P (dC, dI) vwCl w H1 → va_S A H0 H1 locs1 → W p l e R s m args below meth c H1 locs1 (cells + mc) (slots + ms) Q (F0 m (pc + 3) ls (.long r :: rest))) : W p l e R s m args below meth c H locs cells slots Q (F0 m pc ls st0) := by
  have hFc : ∀ q, va_A [] H.size q → A q := fun q h => by
    rcases h with ⟨k, e, h⟩ | h
    · simp at h
    · exact hA q (Nat.le_trans hS.1 h)
  refine va_calll hr hS (fun q _ h => hFc q h) hFc (fun r u t H1 locs ht hvm hw hB hz1 hk1 hS => ?_)
  refine kk r u H1 locs hw (hP.kept (fun k q hk => hk1 q.1 (hP k q hk).lt (fun h => ?_))) hS
  have hlt := (hP k q hk).lt
  rcases h with ⟨j, e, h⟩ | h
  · simp at h
  · omega
theorem zcS_l {S : Type} {post : Int64 → S → Prop} {w1 : S → va_W} (hr : va_Run p l e R s m args below meth c H locs cells slots mc ms (F0 m pc ls st0) rest (va_Ql post (fun u t => zPost dC dI (va_A wc H.size) (w1 u) t) (va_A wc H.size) a) (va_A wc H.size)) (hP : va_P (dC, dI) vwCl w H) (hD : va_D A w) (hS : va_S A H0 H locs) (hA : ∀ q, H0.size ≤ q → A q) (isC : List Nat) (hC : isC.map (fun i => w[i]?) = wc.map some) (hadr : ∀ u, (w1 u).map Prod.fst = wc.map Prod.fst) (kk : ∀ (r : Int64) (u : S) (H1 : Heap) (locs1 : List Loc), post r u → va_P (dC, dI) vwCl (zset w isC (w1 u)) H1 → va_D A (zset w isC (w1 u)) → va_S A H0 H1 locs1 → W p l e R s m args below meth c H1 locs1 (cells + mc) (slots + ms) Q (F0 m (pc + 3) ls (.long r :: rest))) : W p l e R s m args below meth c H locs cells slots Q (F0 m pc ls st0) := by
  have hFc := va_free (wc := wc) hD hS hA isC hC
  refine va_calll hr hS (fun q _ h => hFc q h) hFc (fun r u t H1 locs ht hvm hw hB hz1 hk1 hS => ?_)
  obtain ⟨hP1, hD1⟩ := hB
  rw [ht] at hP1
  obtain ⟨hP2, hD2⟩ := z_back hP hD isC hC (hadr u) hk1 hP1
  exact kk r u H1 locs hw hP2 hD2 hS
theorem zcA_v {S : Type} {post : S → Prop} {w1 : S → va_W} (hr : va_Run p l e R s m args below meth c H locs cells slots mc ms (F0 m pc ls st0) rest (va_Qv post (fun u t => zPost dC dI (va_A w H.size) (w1 u) t) (va_A w H.size) a) (va_A w H.size)) (hD : va_D A w) (hS : va_S A H0 H locs) (hA : ∀ q, H0.size ≤ q → A q) (kk : ∀ (u : S) (H1 : Heap) (locs1 : List Loc), post u → va_P (dC, dI) vwCl (w1 u) H1 → va_D A (w1 u) → va_S A H0 H1 locs1 → W p l e R s m args below meth c H1 locs1 (cells + mc) (slots + ms) Q (F0 m (pc + 3) ls rest)) : W p l e R s m args below meth c H locs cells slots Q (F0 m pc ls st0) := by
  have hFc : ∀ q, va_A w H.size q → A q := fun q h => by
    rcases h with ⟨k, e, h⟩ | h
    · exact hD.2 k _ h
    · exact hA q (Nat.le_trans hS.1 h)
  refine va_callv hr hS (fun q _ h => hFc q h) hFc (fun u t H1 locs ht hvm hw hB hz1 hk1 hS => ?_)
  obtain ⟨hP1, hD1⟩ := hB
  rw [ht] at hP1
  exact kk u H1 locs hw hP1 (hD1.weaken (fun _ q _ h => hFc q.1 h)) hS
theorem zc0_v {S : Type} {post : S → Prop} (hr : va_Run p l e R s m args below meth c H locs cells slots mc ms (F0 m pc ls st0) rest (va_Qv post (fun u t => zPost dC dI (va_A [] H.size) ([]) t) (va_A [] H.size) a) (va_A [] H.size)) (hP : va_P (dC, dI) vwCl w H) (hS : va_S A H0 H locs) (hA : ∀ q, H0.size ≤ q → A q) (kk : ∀ (u : S) (H1 : Heap) (locs1 : List Loc), post u → va_P (dC, dI) vwCl w H1 → va_S A H0 H1 locs1 → W p l e R s m args below meth c H1 locs1 (cells + mc) (slots + ms) Q (F0 m (pc + 3) ls rest)) : W p l e R s m args below meth c H locs cells slots Q (F0 m pc ls st0) := by
  have hFc : ∀ q, va_A [] H.size q → A q := fun q h => by
    rcases h with ⟨k, e, h⟩ | h
    · simp at h
    · exact hA q (Nat.le_trans hS.1 h)
  refine va_callv hr hS (fun q _ h => hFc q h) hFc (fun u t H1 locs ht hvm hw hB hz1 hk1 hS => ?_)
  refine kk u H1 locs hw (hP.kept (fun k q hk => hk1 q.1 (hP k q hk).lt (fun h => ?_))) hS
  have hlt := (hP k q hk).lt
  rcases h with ⟨j, e, h⟩ | h
  · simp at h
  · omega
theorem zcS_v {S : Type} {post : S → Prop} {w1 : S → va_W} (hr : va_Run p l e R s m args below meth c H locs cells slots mc ms (F0 m pc ls st0) rest (va_Qv post (fun u t => zPost dC dI (va_A wc H.size) (w1 u) t) (va_A wc H.size) a) (va_A wc H.size)) (hP : va_P (dC, dI) vwCl w H) (hD : va_D A w) (hS : va_S A H0 H locs) (hA : ∀ q, H0.size ≤ q → A q) (isC : List Nat) (hC : isC.map (fun i => w[i]?) = wc.map some) (hadr : ∀ u, (w1 u).map Prod.fst = wc.map Prod.fst) (kk : ∀ (u : S) (H1 : Heap) (locs1 : List Loc), post u → va_P (dC, dI) vwCl (zset w isC (w1 u)) H1 → va_D A (zset w isC (w1 u)) → va_S A H0 H1 locs1 → W p l e R s m args below meth c H1 locs1 (cells + mc) (slots + ms) Q (F0 m (pc + 3) ls rest)) : W p l e R s m args below meth c H locs cells slots Q (F0 m pc ls st0) := by
  have hFc := va_free (wc := wc) hD hS hA isC hC
  refine va_callv hr hS (fun q _ h => hFc q h) hFc (fun u t H1 locs ht hvm hw hB hz1 hk1 hS => ?_)
  obtain ⟨hP1, hD1⟩ := hB
  rw [ht] at hP1
  obtain ⟨hP2, hD2⟩ := z_back hP hD isC hC (hadr u) hk1 hP1
  exact kk u H1 locs hw hP2 hD2 hS
end
theorem z_last {α : Type} (l : List α) (x : α) : (l ++ [x])[l.length]? = some x := by simp
theorem z_newI (N : Nat) (cA : ClassId) : vp_cell cA (N, .inl (fun _ => 0)) = arrV cA N (fun _ => defaultValue .int) := rfl
theorem z_newZ (N : Nat) (cA : ClassId) : vp_cell cA (N, .inl (fun _ => 0)) = arrV cA N (fun _ => defaultValue .boolean) := rfl
theorem z_newJ (N : Nat) (cA : ClassId) : vp_cell cA (N, .inr (.inl (fun _ => 0))) = arrV cA N (fun _ => defaultValue .long) := rfl
theorem z_cls {D : va_G} {cl : List vw_C} {l : List (ClassId × FieldType)} {cA c0 : ClassId} {ty : FieldType} {U : State} (hp : va_RA U cA ty → va_RA U c0 ty → cA = c0) (h : va_K D cl (l ++ [(cA, ty)]) U) (i : Nat) (hi : l[i]? = some (c0, ty)) : cA = c0 := hp (h.2 l.length _ (z_last _ _)).2 (h.2 i (c0, ty) (by rw [List.getElem?_append_left (List.getElem?_eq_some_iff.mp hi).1]; exact hi)).2
theorem z_raI {U : State} {a b : ClassId} (h1 : va_RA U a .int) (h2 : va_RA U b .int) : a = b := Option.some.inj ((show U.vm.findClass _ = some a from h1).symm.trans (show U.vm.findClass _ = some b from h2))
theorem z_raJ {U : State} {a b : ClassId} (h1 : va_RA U a .long) (h2 : va_RA U b .long) : a = b := Option.some.inj ((show U.vm.findClass _ = some a from h1).symm.trans (show U.vm.findClass _ = some b from h2))
theorem z_raZ {U : State} {a b : ClassId} (h1 : va_RA U a .boolean) (h2 : va_RA U b .boolean) : a = b := Option.some.inj ((show U.vm.findClass _ = some a from h1).symm.trans (show U.vm.findClass _ = some b from h2))
theorem z_objcls {U : State} {c1 c2 : ClassId} {C : String} (h1 : va_RA U c1 (.object C)) (h2 : va_RA U c2 (.object C)) : c1 = c2 := by
  obtain ⟨_, _, _, _, _, a⟩ := h1
  obtain ⟨_, _, _, _, _, b⟩ := h2
  exact Option.some.inj (a.symm.trans b)
section
variable {p : Program} {l : Launch} {e : Env} {R : Room} {s : State} {m : MethodId} {args : Array Value} {below : List Frame} {meth : Method} {c : Code} {H H0 : Heap} {locs : List Loc} {cells slots : Nat} {Q : State → Prop} {pc nL : Nat} {ls : Array Slot} {rest : List Value} {A : Nat → Prop} {dC : Nat → ClassId} {dI : Nat → Nat → Nat} {w : va_W} {lv : List (Nat × Value)}
/-- a fresh heap, fresh locals: nothing else in the context speaks of them -/
theorem z_cut (hP : va_P (dC, dI) vwCl w H) (hD : va_D A w) (hS : va_S A H0 H locs) (hl : lv_has ls nL lv) (kk : ∀ (H : Heap) (locs : List Loc) (ls : Array Slot), va_P (dC, dI) vwCl w H → va_D A w → va_S A H0 H locs → lv_has ls nL lv → W p l e R s m args below meth c H locs cells slots Q (F0 m pc ls rest)) : W p l e R s m args below meth c H locs cells slots Q (F0 m pc ls rest) := kk H locs ls hP hD hS hl
end
/-! a state: ints, longs, rows of ints, rows of longs, each by its number -/
abbrev ZS : Type := (Nat → Int32) × (Nat → Int64) × (Nat → Nat → Int32) × (Nat → Nat → Int64)
def sI (s : ZS) (i : Nat) (v : Int32) : ZS := (fun j => if j = i then v else s.1 j, s.2)
def sJ (s : ZS) (i : Nat) (v : Int64) : ZS := (s.1, fun j => if j = i then v else s.2.1 j, s.2.2)
def sA (s : ZS) (a : Nat) (f : Nat → Int32) : ZS := (s.1, s.2.1, fun j => if j = a then f else s.2.2.1 j, s.2.2.2)
def sL (s : ZS) (a : Nat) (f : Nat → Int64) : ZS := (s.1, s.2.1, s.2.2.1, fun j => if j = a then f else s.2.2.2 j)
/-! what a branch says, as whole numbers -/
theorem zb_eq {x y : Int32} {a b : Int} (hx : x.toInt = a) (hy : y.toInt = b) (h : x = y) : a = b := by rw [← hx, ← hy, h]
theorem zb_ne {x y : Int32} {a b : Int} (hx : x.toInt = a) (hy : y.toInt = b) (h : ¬ x = y) : ¬ a = b := fun q => h (Int32.toInt_inj.mp (by rw [hx, hy, q]))
theorem zb_lt {x y : Int32} {a b : Int} (hx : x.toInt = a) (hy : y.toInt = b) (h : x < y) : a < b := by rw [← hx, ← hy]; exact Int32.lt_iff_toInt_lt.mp h
theorem zb_nlt {x y : Int32} {a b : Int} (hx : x.toInt = a) (hy : y.toInt = b) (h : ¬ x < y) : b ≤ a := by rw [Int32.lt_iff_toInt_lt, hx, hy] at h; omega
theorem zb_le {x y : Int32} {a b : Int} (hx : x.toInt = a) (hy : y.toInt = b) (h : x ≤ y) : a ≤ b := by rw [← hx, ← hy]; exact Int32.le_iff_toInt_le.mp h
theorem zb_nle {x y : Int32} {a b : Int} (hx : x.toInt = a) (hy : y.toInt = b) (h : ¬ x ≤ y) : b < a := by rw [Int32.le_iff_toInt_le, hx, hy] at h; omega
theorem zl_eq {x y : Int64} {a b : Int} (hx : x.toInt = a) (hy : y.toInt = b) (h : lg_cmp x y = 0) : a = b := by rw [← hx, ← hy, (lg_cmp_eq x y).mp h]
theorem zl_ne {x y : Int64} {a b : Int} (hx : x.toInt = a) (hy : y.toInt = b) (h : ¬ lg_cmp x y = 0) : ¬ a = b := fun q => h ((lg_cmp_eq x y).mpr (Int64.toInt_inj.mp (by rw [hx, hy, q])))
theorem zl_lt {x y : Int64} {a b : Int} (hx : x.toInt = a) (hy : y.toInt = b) (h : lg_cmp x y < 0) : a < b := by rw [← hx, ← hy]; exact Int64.lt_iff_toInt_lt.mp ((lg_cmp_lt x y).mp h)
theorem zl_nlt {x y : Int64} {a b : Int} (hx : x.toInt = a) (hy : y.toInt = b) (h : ¬ lg_cmp x y < 0) : b ≤ a := by rw [lg_cmp_lt, Int64.lt_iff_toInt_lt, hx, hy] at h; omega
theorem zl_ge {x y : Int64} {a b : Int} (hx : x.toInt = a) (hy : y.toInt = b) (h : 0 ≤ lg_cmp x y) : b ≤ a := by
  have q := (lg_cmp_ge x y).mp h
  have q2 := Int64.le_iff_toInt_le.mp q
  omega
theorem zl_nge {x y : Int64} {a b : Int} (hx : x.toInt = a) (hy : y.toInt = b) (h : ¬ 0 ≤ lg_cmp x y) : a < b := by
  have q : ¬ y ≤ x := fun z => h ((lg_cmp_ge x y).mpr z)
  rw [Int64.le_iff_toInt_le] at q
  omega
theorem zl_gt {x y : Int64} {a b : Int} (hx : x.toInt = a) (hy : y.toInt = b) (h : 0 < lg_cmp x y) : b < a := by
  have q := (lg_cmp_gt x y).mp h
  have q2 := Int64.lt_iff_toInt_lt.mp q
  omega
theorem zl_ngt {x y : Int64} {a b : Int} (hx : x.toInt = a) (hy : y.toInt = b) (h : ¬ 0 < lg_cmp x y) : a ≤ b := by
  have q : ¬ y < x := fun z => h ((lg_cmp_gt x y).mpr z)
  rw [Int64.lt_iff_toInt_lt] at q
  omega
theorem zl_le {x y : Int64} {a b : Int} (hx : x.toInt = a) (hy : y.toInt = b) (h : lg_cmp x y ≤ 0) : a ≤ b := by
  have q := (lg_cmp_le x y).mp h
  have q2 := Int64.le_iff_toInt_le.mp q
  omega
theorem zl_nle {x y : Int64} {a b : Int} (hx : x.toInt = a) (hy : y.toInt = b) (h : ¬ lg_cmp x y ≤ 0) : b < a := by
  have q : ¬ x ≤ y := fun z => h ((lg_cmp_le x y).mpr z)
  rw [Int64.le_iff_toInt_le] at q
  omega
/-! sums, in whole numbers -/
theorem z_add {x y z : Int32} {a b : Int} (e : z = x + y) (hx : x.toInt = a) (hy : y.toInt = b) (h : -2147483648 ≤ a + b ∧ a + b ≤ 2147483647) : z.toInt = a + b := by
  rw [e, Jvm.Kit.i32_add (by omega) (by omega), hx, hy]
theorem z_sub {x y z : Int32} {a b : Int} (e : z = x - y) (hx : x.toInt = a) (hy : y.toInt = b) (h : -2147483648 ≤ a - b ∧ a - b ≤ 2147483647) : z.toInt = a - b := by
  rw [e, Jvm.Kit.i32_sub (by omega) (by omega), hx, hy]
theorem z_mul {x y z : Int32} {a b : Int} (e : z = x * y) (hx : x.toInt = a) (hy : y.toInt = b) (h : -2147483648 ≤ a * b ∧ a * b ≤ 2147483647) : z.toInt = a * b := by
  rw [e, Jvm.Kit.i32_mul (by rw [hx, hy]; omega) (by rw [hx, hy]; omega), hx, hy]
theorem z_clamp {x : Int32} (h : 0 ≤ x.toInt) : (x.toNatClampNeg : Int) = x.toInt := by
  have e : x.toNatClampNeg = x.toInt.toNat := rfl
  omega
theorem z_in {x : Int32} {n : Nat} (h : 0 ≤ x.toInt ∧ x.toInt < n) : vp_in x n := vp_in_iff.mpr h
theorem z_cl4 {x : Int32} (h : 0 ≤ x.toInt ∧ x.toInt < 4) : x.toNatClampNeg < 4 := by
  have e : x.toNatClampNeg = x.toInt.toNat := rfl
  omega
theorem z_l0ne {y : Int64} (h : ¬ y.toInt = 0) : ¬ y = 0 := fun q => h (by rw [q]; decide)
theorem z_i0ne {y : Int32} (h : ¬ y.toInt = 0) : ¬ y = 0 := fun q => h (by rw [q]; decide)
section
variable {p : Program} {l : Launch} {e : Env} {R : Room} {s : State} {m : MethodId} {args : Array Value} {below : List Frame} {meth : Method} {c : Code} {H H0 : Heap} {locs : List Loc} {cells slots : Nat} {Q : State → Prop} {pc nL : Nat} {ls : Array Slot} {rest : List Value} {A : Nat → Prop} {dC : Nat → ClassId} {dI : Nat → Nat → Nat} {w : va_W} {lv : List (Nat × Value)}
theorem z_start2 (hP : va_P (dC, dI) vwCl w s.heap) (kk : ∀ (H : Heap) (locs : List Loc), va_P (dC, dI) vwCl w H → va_S A s.heap H locs → W p l e R s m args below meth c H locs cells slots Q (F0 m pc ls rest)) : W p l e R s m args below meth c s.heap [] cells slots Q (F0 m pc ls rest) := kk s.heap [] hP va_S.rf
theorem z_cut2 (hP : va_P (dC, dI) vwCl w H) (hS : va_S A H0 H locs) (hl : lv_has ls nL lv) (kk : ∀ (H : Heap) (locs : List Loc) (ls : Array Slot), va_P (dC, dI) vwCl w H → va_S A H0 H locs → lv_has ls nL lv → W p l e R s m args below meth c H locs cells slots Q (F0 m pc ls rest)) : W p l e R s m args below meth c H locs cells slots Q (F0 m pc ls rest) := kk H locs ls hP hS hl
end
/-! rows filled from the start -/
theorem fill_s {f f2 : Nat → Int32} {i x v : Int32} (h : ∀ j : Nat, (j : Int) < i.toInt → f j = v) (e : f2 = upd f i.toNatClampNeg v) (hi : 0 ≤ i.toInt) (hx : x.toInt = i.toInt + 1) : ∀ j : Nat, (j : Int) < x.toInt → f2 j = v := by
  intro j hj
  have c := z_clamp hi
  rw [e]
  by_cases q : j = i.toNatClampNeg
  · rw [q]; exact pk_us
  · rw [pk_un q]; exact h j (by omega)
theorem fill_l {f f2 : Nat → Int64} {i x : Int32} {v : Int64} (h : ∀ j : Nat, (j : Int) < i.toInt → f j = v) (e : f2 = vp_updL f i.toNatClampNeg v) (hi : 0 ≤ i.toInt) (hx : x.toInt = i.toInt + 1) : ∀ j : Nat, (j : Int) < x.toInt → f2 j = v := by
  intro j hj
  have c := z_clamp hi
  rw [e]
  by_cases q : j = i.toNatClampNeg
  · rw [q]; exact pk_uLs
  · rw [pk_uLn q]; exact h j (by omega)
theorem z_no0 {j : Nat} : ¬ ((j : Int) < (0 : Int32).toInt) := by
  have e : (0 : Int32).toInt = 0 := by decide
  omega
theorem z_max0 {x : Int32} : 0 ≤ (if x < 0 then 0 else x).toInt := by
  have e : (0 : Int32).toInt = 0 := by decide
  by_cases h : x < 0
  · rw [if_pos h]
    omega
  · rw [if_neg h]
    rw [Int32.lt_iff_toInt_lt] at h
    omega
section
variable {p : Program} {l : Launch} {e : Env} {R : Room} {s : State} {m : MethodId} {args : Array Value} {below : List Frame} {meth : Method} {c : Code} {H H0 : Heap} {locs : List Loc} {cells slots : Nat} {Q : State → Prop} {pc nL : Nat} {ls : Array Slot} {rest : List Value} {A : Nat → Prop} {dC : Nat → ClassId} {dI : Nat → Nat → Nat}
/-- a place where roads meet: walked once -/
theorem z_join2 {α : Type} {Inv : α → Prop} {lv2 : α → List (Nat × Value)} {st2 : α → List Value} {w2 : α → va_W} (pc2 : Nat) (hj : ∀ (x : α) (H : Heap) (locs : List Loc) (ls : Array Slot), Inv x → va_P (dC, dI) vwCl (w2 x) H → va_S A H0 H locs → lv_has ls nL (lv2 x) → W p l e R s m args below meth c H locs cells slots Q (F0 m pc2 ls (st2 x))) (kk : (∀ (x : α) (H : Heap) (locs : List Loc) (ls : Array Slot), Inv x → va_P (dC, dI) vwCl (w2 x) H → va_S A H0 H locs → lv_has ls nL (lv2 x) → W p l e R s m args below meth c H locs cells slots Q (F0 m pc2 ls (st2 x))) → W p l e R s m args below meth c H locs cells slots Q (F0 m pc ls rest)) : W p l e R s m args below meth c H locs cells slots Q (F0 m pc ls rest) := kk hj
end
