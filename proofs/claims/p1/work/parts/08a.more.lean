section
variable {p : Program} {l : Launch} {e : Env} {R : Room} {s : State} {m : MethodId} {args : Array Value} {below : List Frame} {meth : Method} {c : Code} {H H0 : Heap} {locs : List Loc} {cells slots : Nat} {Q : State → Prop} {pc nL : Nat} {ls : Array Slot} {rest : List Value} {A : Nat → Prop} {dC : Nat → ClassId} {dI : Nat → Nat → Nat} {w : va_W} {lv : List (Nat × Value)}
/-- a fresh heap, fresh locals: nothing else in the context speaks of them -/
theorem z_cut (hP : va_P (dC, dI) vwCl w H) (hD : va_D A w) (hS : va_S A H0 H locs) (hl : lv_has ls nL lv) (kk : ∀ (H : Heap) (locs : List Loc) (ls : Array Slot), va_P (dC, dI) vwCl w H → va_D A w → va_S A H0 H locs → lv_has ls nL lv → W p l e R s m args below meth c H locs cells slots Q (F0 m pc ls rest)) : W p l e R s m args below meth c H locs cells slots Q (F0 m pc ls rest) := kk H locs ls hP hD hS hl
end
theorem z_gs (x y : Nat) : Nat.gcd y (x % y) = Nat.gcd x y := by
  rw [Nat.gcd_comm y, ← Nat.gcd_rec, Nat.gcd_comm]
theorem z_l0 {a : Nat} (h : a < 2 ^ 62) : (0 : Int64) ≤ lN a := (pk_lLE (a := 0) (b := a) (by decide) (by omega)).mpr (Nat.zero_le a)
theorem z_lz {a : Nat} (h : a < 2 ^ 62) : lN a = 0 ↔ a = 0 := pk_lEQ (a := a) (b := 0) (by omega) (by decide)
theorem z_labs {a : Nat} (h : a < 2 ^ 62) : (if 0 < lN a then lN a else -lN a) = lN a := by
  by_cases q : 0 < lN a
  · rw [if_pos q]
  · have q1 : ¬ 0 < a := fun z => q ((pk_lLT (a := 0) (b := a) (by decide) (by omega)).mpr z)
    obtain rfl : a = 0 := by omega
    decide
theorem z_lr {x y : Nat} (hx : x < 2 ^ 62) (hy : y < 2 ^ 62) (h0 : 0 < y) : lN x - lN x / lN y * lN y = lN (x % y) := pk_lRem (by omega) h0 (by omega)
theorem z_ld {x y : Nat} (hx : x < 2 ^ 62) (hy : y < 2 ^ 62) (h0 : 0 < y) : lN x / lN y = lN (x / y) := pk_lDiv (by omega) h0 (by omega)
def zHas (n w : Int32) : Int64 := if w = 0 then lN (n.toNatClampNeg / Nat.gcd n.toNatClampNeg 100) else lN (100 / Nat.gcd n.toNatClampNeg 100)
def zCount (w : Int32) : Int32 := if w.toInt < 0 ∨ 8 < w.toInt then -2 else if w = 5 then 12 else if w = 6 then 100 else if w = 7 then -1 else 0
theorem zi_n98 : (98 : Int32).toInt = 98 := by decide
theorem z_of99 {n : Int32} (h1 : 1 ≤ n) (h2 : n ≤ 99) : ∃ j : Nat, 1 ≤ j ∧ j ≤ 99 ∧ n = nI j := by
  simp only [zi_le, zi_n1, zi_n99] at h1 h2
  refine ⟨n.toInt.toNat, by omega, by omega, ?_⟩
  rw [zi_eq, nI_toInt (by omega)]
  omega
theorem z_100 {j : Nat} (h : j ≤ 99) : ((100 : Int32) - nI j).toInt64 = lN (100 - j) := by
  have e : (100 : Int32) - nI j = nI (100 - j) := pk_sub (a := 100) (b := j) (by omega)
  rw [e, nI_l (by omega)]
theorem z_100L {j : Nat} (h : j ≤ 99) : (100 : Int64) - lN j = lN (100 - j) := lN_sub (a := 100) (b := j) (by omega)
