abbrev vwCl : List vw_C := [(RX0, TX0, 9), (RX1, TX1, 9), (RX2, TX2, 2), (RX3, TX3, 1), (RX4, TX4, 3), (RX5, TX5, 3), (RX6, TX6, 12), (RX7, TX7, 42)]
/-! words of this proof: the array classes, the nest links, what a contract takes and leaves -/
abbrev zT (k : Nat → ClassId) (T : List (ClassId × FieldType)) : List (ClassId × FieldType) := (k 0, .int) :: (k 1, .long) :: (k 2, .boolean) :: T
def zN (U : State) : Prop := va_Nw (.methodLinkNest RX6 27 yX0_init RX6) U ∧ va_Nw (.methodLinkNest RX6 34 yX4_init RX6) U ∧ va_Nw (.methodLinkNest RX6 41 yX3_init RX6) U ∧ va_Nw (.methodLinkNest RX6 48 yX2_init RX6) U ∧ va_Nw (.methodLinkNest RX6 69 yX1_init RX6) U ∧ va_Nw (.methodLinkNest RX6 70 yX5_init RX6) U ∧ va_Nw (.methodLinkNest RX1 60 yX6_commonDivisor RX6) U ∧ va_Nw (.methodLinkNest RX2 16 yX6_commonDivisor RX6) U
theorem zN_warm {s U : State} (hW : s.WarmedH U.vm) (h : zN s) : zN U := ⟨h.1.warmM hW, h.2.1.warmM hW, h.2.2.1.warmM hW, h.2.2.2.1.warmM hW, h.2.2.2.2.1.warmM hW, h.2.2.2.2.2.1.warmM hW, h.2.2.2.2.2.2.1.warmM hW, h.2.2.2.2.2.2.2.warmM hW⟩
theorem zN_same {u U : State} (e : u.vm = U.vm) (h : zN u) : zN U := ⟨h.1.same rfl e, h.2.1.same rfl e, h.2.2.1.same rfl e, h.2.2.2.1.same rfl e, h.2.2.2.2.1.same rfl e, h.2.2.2.2.2.1.same rfl e, h.2.2.2.2.2.2.1.same rfl e, h.2.2.2.2.2.2.2.same rfl e⟩
def zK (dC : Nat → ClassId) (dI : Nat → Nat → Nat) (k : Nat → ClassId) (T : List (ClassId × FieldType)) (U : State) : Prop := va_K (dC, dI) vwCl (zT k T) U ∧ zN U
def zPre (dC : Nat → ClassId) (dI : Nat → Nat → Nat) (k : Nat → ClassId) (T : List (ClassId × FieldType)) (w : va_W) (sz : Nat) (U : State) : Prop := U.heap.size = sz ∧ va_P (dC, dI) vwCl w U.heap ∧ zK dC dI k T U ∧ va_D (fun _ => True) w
def zPost (dC : Nat → ClassId) (dI : Nat → Nat → Nat) (A : Nat → Prop) (w1 : va_W) (t : State) : Prop := va_P (dC, dI) vwCl w1 t.heap ∧ va_D A w1
theorem z_fm {α β : Type} {f : α → Option β} : ∀ {is : List α} {wc : List β}, is.map f = wc.map some → is.filterMap f = wc
  | [], [], _ => rfl
  | [], _ :: _, h => by cases h
  | _ :: _, [], h => by cases h
  | i :: is, b :: wc, h => by
    rw [List.map_cons, List.map_cons, List.cons.injEq] at h
    rw [List.filterMap_cons_some h.1, z_fm h.2]
section
variable {p : Program} {l : Launch} {e : Env} {R : Room} {s : State} {m : MethodId} {args : Array Value} {below : List Frame} {meth : Method} {c : Code} {H H0 : Heap} {locs : List Loc} {cells slots mc ms : Nat} {Q : State → Prop} {pc : Nat} {ls : Array Slot} {rest st0 : List Value} {a : Array Value} {A : Nat → Prop} {dC : Nat → ClassId} {dI : Nat → Nat → Nat} {k : Nat → ClassId} {T : List (ClassId × FieldType)} {w wc wr : va_W}
theorem zp_S {A2 : Nat → Prop} {av : List Value} (hK : zK dC dI k T s) (hP : va_P (dC, dI) vwCl w H) (hD : va_D A2 w) (is : List Nat) (hC : is.map (fun i => w[i]?) = wc.map some) (hn : va_nd is = true) : PreS s H (va_Pc av (zPre dC dI k T wc H.size)) av := ⟨fun a U g mk q => by
    obtain ⟨q0, q1, qP, qK, qD⟩ := q
    exact ⟨q0, q1, qP, ⟨va_K.moved (u := U) (U := U.calling g mk a) (Vm.Alike.refl U.vm) qK.1, zN_same (u := U) (U := U.calling g mk a) rfl qK.2⟩, qD⟩, fun U hU hW => ⟨rfl, by rw [hU], by rw [hU]; exact hP.sub is (z_fm hC), ⟨va_K.moved hW.alike hK.1, zN_warm hW hK.2⟩, (hD.sub is hn hC).weaken (fun _ _ _ _ => trivial)⟩⟩
theorem zp_V {A2 : Nat → Prop} {b : Nat} {As : List Value} {ci q0 : Nat} {q : vw_C} {fs : List Value} (hK : zK dC dI k T s) (hP : va_P (dC, dI) vwCl w H) (hD : va_D A2 w) (is : List Nat) (hC : is.map (fun i => w[i]?) = wc.map some) (hn : va_nd is = true) (hc : vwCl[ci]? = some q) (he : w[q0]? = some (b, .inr (ci, fs))) : PreV s H q.1 b (va_Pc (.ref b :: As) (zPre dC dI k T wc H.size)) As := ⟨(zp_S hK hP hD is hC hn).1, va_recv hK.1 hP hc he, (zp_S hK hP hD is hC hn).2⟩
theorem zc_i {S : Type} {post : Int32 → S → Prop} {w1 : S → va_W} (hr : va_Run p l e R s m args below meth c H locs cells slots mc ms (F0 m pc ls st0) rest (va_Qi post (fun u t => zPost dC dI (va_A wc H.size) (w1 u) t) (va_A wc H.size) a) (va_A wc H.size)) (hP : va_P (dC, dI) vwCl w H) (hD : va_D A w) (hS : va_S A H0 H locs) (hA : ∀ q, H0.size ≤ q → A q) (isC isR : List Nat) (hC : isC.map (fun i => w[i]?) = wc.map some) (hR : isR.map (fun i => w[i]?) = wr.map some) (hn : va_nd isR = true) (hdis : ∀ i ∈ isR, i ∉ isC)
    (kk : ∀ (r : Int32) (u : S) (H1 : Heap) (locs1 : List Loc), post r u → va_P (dC, dI) vwCl (wr ++ w1 u) H1 → va_D A (wr ++ w1 u) → va_S A H0 H1 locs1 → W p l e R s m args below meth c H1 locs1 (cells + mc) (slots + ms) Q (F0 m (pc + 3) ls (.int r :: rest))) : W p l e R s m args below meth c H locs cells slots Q (F0 m pc ls st0) := by
  have hFc := va_free (wc := wc) hD hS hA isC hC
  refine va_calli hr hS (fun q _ h => hFc q h) hFc (fun r u t H1 locs ht hvm hw hB hz1 hk1 hS => ?_)
  obtain ⟨hP1, hD1⟩ := hB
  rw [ht] at hP1
  obtain ⟨hP2, hD2⟩ := va_join (wr := wr) (w1 := w1 u) hP hD isC isR hC hR hn hdis hk1 hFc hP1 hD1
  exact kk r u H1 locs hw hP2 hD2 hS
theorem zc_l {S : Type} {post : Int64 → S → Prop} {w1 : S → va_W} (hr : va_Run p l e R s m args below meth c H locs cells slots mc ms (F0 m pc ls st0) rest (va_Ql post (fun u t => zPost dC dI (va_A wc H.size) (w1 u) t) (va_A wc H.size) a) (va_A wc H.size)) (hP : va_P (dC, dI) vwCl w H) (hD : va_D A w) (hS : va_S A H0 H locs) (hA : ∀ q, H0.size ≤ q → A q) (isC isR : List Nat) (hC : isC.map (fun i => w[i]?) = wc.map some) (hR : isR.map (fun i => w[i]?) = wr.map some) (hn : va_nd isR = true) (hdis : ∀ i ∈ isR, i ∉ isC)
    (kk : ∀ (r : Int64) (u : S) (H1 : Heap) (locs1 : List Loc), post r u → va_P (dC, dI) vwCl (wr ++ w1 u) H1 → va_D A (wr ++ w1 u) → va_S A H0 H1 locs1 → W p l e R s m args below meth c H1 locs1 (cells + mc) (slots + ms) Q (F0 m (pc + 3) ls (.long r :: rest))) : W p l e R s m args below meth c H locs cells slots Q (F0 m pc ls st0) := by
  have hFc := va_free (wc := wc) hD hS hA isC hC
  refine va_calll hr hS (fun q _ h => hFc q h) hFc (fun r u t H1 locs ht hvm hw hB hz1 hk1 hS => ?_)
  obtain ⟨hP1, hD1⟩ := hB
  rw [ht] at hP1
  obtain ⟨hP2, hD2⟩ := va_join (wr := wr) (w1 := w1 u) hP hD isC isR hC hR hn hdis hk1 hFc hP1 hD1
  exact kk r u H1 locs hw hP2 hD2 hS
theorem zc_v {S : Type} {post : S → Prop} {w1 : S → va_W} (hr : va_Run p l e R s m args below meth c H locs cells slots mc ms (F0 m pc ls st0) rest (va_Qv post (fun u t => zPost dC dI (va_A wc H.size) (w1 u) t) (va_A wc H.size) a) (va_A wc H.size)) (hP : va_P (dC, dI) vwCl w H) (hD : va_D A w) (hS : va_S A H0 H locs) (hA : ∀ q, H0.size ≤ q → A q) (isC isR : List Nat) (hC : isC.map (fun i => w[i]?) = wc.map some) (hR : isR.map (fun i => w[i]?) = wr.map some) (hn : va_nd isR = true) (hdis : ∀ i ∈ isR, i ∉ isC)
    (kk : ∀ (u : S) (H1 : Heap) (locs1 : List Loc), post u → va_P (dC, dI) vwCl (wr ++ w1 u) H1 → va_D A (wr ++ w1 u) → va_S A H0 H1 locs1 → W p l e R s m args below meth c H1 locs1 (cells + mc) (slots + ms) Q (F0 m (pc + 3) ls rest)) : W p l e R s m args below meth c H locs cells slots Q (F0 m pc ls st0) := by
  have hFc := va_free (wc := wc) hD hS hA isC hC
  refine va_callv hr hS (fun q _ h => hFc q h) hFc (fun u t H1 locs ht hvm hw hB hz1 hk1 hS => ?_)
  obtain ⟨hP1, hD1⟩ := hB
  rw [ht] at hP1
  obtain ⟨hP2, hD2⟩ := va_join (wr := wr) (w1 := w1 u) hP hD isC isR hC hR hn hdis hk1 hFc hP1 hD1
  exact kk u H1 locs hw hP2 hD2 hS
theorem z_start (hP : va_P (dC, dI) vwCl w s.heap) (hD : va_D A w) (kk : ∀ (H : Heap) (locs : List Loc), va_P (dC, dI) vwCl w H → va_D A w → va_S A s.heap H locs → W p l e R s m args below meth c H locs cells slots Q (F0 m pc ls rest)) : W p l e R s m args below meth c s.heap [] cells slots Q (F0 m pc ls rest) := kk s.heap [] hP hD va_S.rf
/-- the top of the stack, by another name -/
theorem z_top {v v2 : Value} (h : v = v2) (kk : W p l e R s m args below meth c H locs cells slots Q (F0 m pc ls (v2 :: rest))) : W p l e R s m args below meth c H locs cells slots Q (F0 m pc ls (v :: rest)) := by
  subst h
  exact kk
theorem z_lcmp {cc : ByteArray} (hexec : p.tables.exec = Jvm.exec) (hb : c.code = cc) {x y : Int64} (hdg : decode cc pc = .ok (.lcmp, 1))
    (kk : W p l e R s m args below meth c H locs cells slots Q (F0 m (pc + 1) ls (.int (lg_cmp x y) :: rest))) : W p l e R s m args below meth c H locs cells slots Q (F0 m pc ls (.long y :: .long x :: rest)) := W.lcmp hexec hb hdg kk
end
/-- the head of a contract -/
def zA (w : va_W) (sz : Nat) : Nat → Prop := va_A w sz
theorem zi_lt {a b : Int32} : a < b ↔ a.toInt < b.toInt := Int32.lt_iff_toInt_lt
theorem zi_le {a b : Int32} : a ≤ b ↔ a.toInt ≤ b.toInt := Int32.le_iff_toInt_le
theorem zi_eq {a b : Int32} : a = b ↔ a.toInt = b.toInt := ⟨fun h => by rw [h], Int32.toInt_inj.mp⟩
theorem zi_n0 : (0 : Int32).toInt = 0 := by decide
theorem zi_n1 : (1 : Int32).toInt = 1 := by decide
theorem zi_n2 : (2 : Int32).toInt = 2 := by decide
theorem zi_n3 : (3 : Int32).toInt = 3 := by decide
theorem zi_n4 : (4 : Int32).toInt = 4 := by decide
theorem zi_n23 : (23 : Int32).toInt = 23 := by decide
theorem zi_n24 : (24 : Int32).toInt = 24 := by decide
theorem zi_n100 : (100 : Int32).toInt = 100 := by decide
theorem zi_n399 : (399 : Int32).toInt = 399 := by decide
theorem zi_n60 : (60 : Int32).toInt = 60 := by decide
theorem zi_n255 : (255 : Int32).toInt = 255 := by decide
theorem zi_n99 : (99 : Int32).toInt = 99 := by decide
theorem zi_n30 : (30 : Int32).toInt = 30 := by decide
theorem zi_nm1 : (-1 : Int32).toInt = -1 := by decide
theorem zi_4 {d : Int32} (h : 0 ≤ d ∧ d ≤ 3) : d = 0 ∨ d = 1 ∨ d = 2 ∨ d = 3 := by
  simp only [zi_le, zi_eq, zi_n0, zi_n1, zi_n2, zi_n3] at *
  omega
theorem zi_2 {d : Int32} (h : 0 ≤ d ∧ d ≤ 1) : d = 0 ∨ d = 1 := by
  simp only [zi_le, zi_eq, zi_n0, zi_n1] at *
  omega
theorem zin4 {d : Int32} (h : 0 ≤ d ∧ d ≤ 3) : vp_in d 4 := by rcases zi_4 h with rfl | rfl | rfl | rfl <;> exact (show ¬ _ by decide)
theorem zin24 {d : Int32} (h : 0 ≤ d ∧ d ≤ 23) : vp_in d 24 := vp_in_iff.mpr (by
  simp only [zi_le, zi_n0, zi_n23] at h
  omega)
theorem z_upd0 {j : Nat} : upd (fun _ => (0 : Int32)) j 0 = (fun _ => 0) := by
  funext i
  simp [upd]
