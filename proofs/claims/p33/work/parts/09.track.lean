/-! what both sides keep alike whatever is faulty: day, day looked back to, other, limit, sizes of the designs, kinds and sizes of the sheets; the groups. Each call's answer, and what it leaves of these -/
abbrev tD (t : TT) (n : Nat) : Int32 := t.1.getD (4 + n) 0
abbrev tK (t : TT) (n : Nat) : Int32 := t.1.getD (8 + 2 * n) 0
abbrev tN (t : TT) (n : Nat) : Int32 := t.1.getD (9 + 2 * n) 0
abbrev tF (t : TT) (n : Nat) : Int32 := t.1.getD (16 + n) 0
/-- a design's bytes -/
def tB (t : TT) (n : Nat) : Int → Int := bX (tD t n) (t.2.2.getD n (fun _ => 0))
/-- the fault of a design, read anew -/
def tFix (t : TT) (n : Nat) : TT := (t.1.set (16 + n) (Int32.ofInt (pF (tB t n) (tD t n).toInt)), t.2)
def tFixs (t : TT) : Nat → TT
  | 0 => t
  | k + 1 => tFix (tFixs t k) k
theorem tFixs_s {t u : TT} {d : Nat} {i j : Int32} (h : u = tFix (tFixs t i.toNatClampNeg) d) (hd : d = i.toNatClampNeg) (hj : j.toInt = i.toInt + 1) (hi : 0 ≤ i.toInt) : u = tFixs t j.toNatClampNeg := by
  have c1 := z_clamp hi
  have c2 := z_clamp (x := j) (by omega)
  rw [show j.toNatClampNeg = i.toNatClampNeg + 1 by omega, h, hd]
  rfl
theorem tr_upd {f : Nat → Int32} {x : Nat} {b : Int32} (h : x < 60) : tr60 (upd f x b) = upd (tr60 f) x b := funext fun i => by
  by_cases q : i = x
  · subst q
    show (if i < 60 then upd f i b i else 0) = upd (tr60 f) i b i
    rw [if_pos h, pk_us, pk_us]
  · show (if i < 60 then upd f x b i else 0) = upd (tr60 f) x b i
    rw [pk_un q, pk_un q]
    rfl
theorem tB_X {z : ZS} : ∀ {d : Nat}, d < 4 → tB (trX z) d = bX ((xD z d).1 1) ((xD z d).2.2.1 0) ∧ tD (trX z) d = (xD z d).1 1
  | 0, _ => ⟨bX_tr (fun i h => if_pos h), rfl⟩
  | 1, _ => ⟨bX_tr (fun i h => if_pos h), rfl⟩
  | 2, _ => ⟨bX_tr (fun i h => if_pos h), rfl⟩
  | 3, _ => ⟨bX_tr (fun i h => if_pos h), rfl⟩
  | _ + 4, h => absurd h (by omega)
theorem settle_fix {z : ZS} {d : Nat} {f : Int32} (hd : d < 4) (h : f.toInt = pF (bX ((xD z d).1 1) ((xD z d).2.2.1 0)) ((xD z d).1 1).toInt) : ((trX z).1.set (16 + d) f, (trX z).2) = tFix (trX z) d := by
  obtain ⟨q1, q2⟩ := tB_X (z := z) hd
  unfold tFix
  rw [q1, q2, ← h, Int32.ofInt_toInt]
def tFault (t : TT) (d : Int32) : Int32 := if 0 ≤ d.toInt ∧ d.toInt < 4 then tF t d.toNatClampNeg else -2
theorem tFault_bad {t : TT} {d : Int32} (h : ¬ (0 ≤ d.toInt ∧ d.toInt < 4)) : (-2 : Int32) = tFault t d := (if_neg h).symm
theorem tFault_ok {t : TT} {d r : Int32} {n : Nat} (h : 0 ≤ d.toInt ∧ d.toInt < 4) (hn : n = d.toNatClampNeg) (hr : tF t n = r) : r = tFault t d := by
  subst hn hr
  exact (if_pos h).symm
def tType (t : TT) (d b : Int32) : Int32 × TT := if (0 ≤ d.toInt ∧ d.toInt < 4) ∧ (0 ≤ b.toInt ∧ b.toInt ≤ 255) then (if 60 ≤ (tD t d.toNatClampNeg).toInt then (-4, t) else (tD t d.toNatClampNeg + 1, tFix (t.1.set (4 + d.toNatClampNeg) (tD t d.toNatClampNeg + 1), t.2.1, t.2.2.set d.toNatClampNeg (upd (t.2.2.getD d.toNatClampNeg (fun _ => 0)) (tD t d.toNatClampNeg).toNatClampNeg b)) d.toNatClampNeg)) else (-2, t)
theorem tType_bad {t : TT} {d b : Int32} (h : ¬ ((0 ≤ d.toInt ∧ d.toInt < 4) ∧ (0 ≤ b.toInt ∧ b.toInt ≤ 255))) : ((-2 : Int32), t) = tType t d b := (if_neg h).symm
theorem tType_full {t t2 : TT} {d b x : Int32} {n : Nat} (h : (0 ≤ d.toInt ∧ d.toInt < 4) ∧ (0 ≤ b.toInt ∧ b.toInt ≤ 255)) (hn : n = d.toNatClampNeg) (hx : tD t n = x) (h2 : 60 ≤ x.toInt) (ht : t2 = t) : ((-4 : Int32), t2) = tType t d b := by
  subst hn hx ht
  exact ((if_pos h).trans (if_pos h2)).symm
theorem tType_ok {t t2 : TT} {d b x y : Int32} {n : Nat} (h : (0 ≤ d.toInt ∧ d.toInt < 4) ∧ (0 ≤ b.toInt ∧ b.toInt ≤ 255)) (hn : n = d.toNatClampNeg) (hx : tD t n = x) (h2 : ¬ 60 ≤ x.toInt) (hy : y = x + 1) (ht : t2 = tFix (t.1.set (4 + n) (x + 1), t.2.1, t.2.2.set n (upd (t.2.2.getD n (fun _ => 0)) x.toNatClampNeg b)) n) : (y, t2) = tType t d b := by
  subst hn hx hy ht
  exact ((if_pos h).trans (if_neg h2)).symm
def tWipe (t : TT) (d : Int32) : Int32 × TT := if (0 ≤ d.toInt ∧ d.toInt < 4) then (tD t d.toNatClampNeg, tFix (t.1.set (4 + d.toNatClampNeg) 0, t.2) d.toNatClampNeg) else (-2, t)
theorem tWipe_bad {t : TT} {d : Int32} (h : ¬ (0 ≤ d.toInt ∧ d.toInt < 4)) : ((-2 : Int32), t) = tWipe t d := (if_neg h).symm
theorem tWipe_ok {t t2 : TT} {d x : Int32} {n : Nat} (h : (0 ≤ d.toInt ∧ d.toInt < 4)) (hn : n = d.toNatClampNeg) (hx : tD t n = x) (ht : t2 = tFix (t.1.set (4 + n) 0, t.2) n) : (x, t2) = tWipe t d := by
  subst hn hx ht
  exact (if_pos h).symm
def tOther (t : TT) (v : Int32) : Int32 × TT := if 0 ≤ v.toInt ∧ v.toInt ≤ 24 then (t.1.getD 2 0, tFixs (t.1.set 2 v, t.2) 4) else (-2, t)
theorem tOther_bad {t : TT} {v : Int32} (h : ¬ (0 ≤ v.toInt ∧ v.toInt ≤ 24)) : ((-2 : Int32), t) = tOther t v := (if_neg h).symm
theorem tOther_ok {t t2 : TT} {v x : Int32} (h : 0 ≤ v.toInt ∧ v.toInt ≤ 24) (hx : x = t.1.getD 2 0) (ht : t2 = tFixs (t.1.set 2 v, t.2) 4) : (x, t2) = tOther t v := by
  subst hx ht
  exact (if_pos h).symm
def tLimit (t : TT) (v : Int32) : Int32 × TT := if 1 ≤ v.toInt ∧ v.toInt ≤ 1000 then (t.1.getD 3 0, (t.1.set 3 v, t.2)) else (-2, t)
theorem tLimit_bad {t : TT} {v : Int32} (h : ¬ (1 ≤ v.toInt ∧ v.toInt ≤ 1000)) : ((-2 : Int32), t) = tLimit t v := (if_neg h).symm
theorem tLimit_ok {t t2 : TT} {v x : Int32} (h : 1 ≤ v.toInt ∧ v.toInt ≤ 1000) (hx : x = t.1.getD 3 0) (ht : t2 = (t.1.set 3 v, t.2)) : (x, t2) = tLimit t v := by
  subst hx ht
  exact (if_pos h).symm
def tPass (t : TT) (n : Int32) : Int32 × TT := if (1 ≤ n.toInt ∧ n.toInt ≤ 100) ∧ (t.1.getD 0 0).toInt + n.toInt ≤ 399 then (t.1.getD 0 0 + n, (t.1.set 0 (t.1.getD 0 0 + n), t.2)) else (-2, t)
theorem tPass_bad {t : TT} {n x : Int32} (hx : x = t.1.getD 0 0) (h : ¬ ((1 ≤ n.toInt ∧ n.toInt ≤ 100) ∧ x.toInt + n.toInt ≤ 399)) : ((-2 : Int32), t) = tPass t n := by
  subst hx
  exact (if_neg h).symm
theorem tPass_ok {t t2 : TT} {n x y : Int32} (hx : x = t.1.getD 0 0) (h : (1 ≤ n.toInt ∧ n.toInt ≤ 100) ∧ x.toInt + n.toInt ≤ 399) (hy : y = x + n) (ht : t2 = (t.1.set 0 y, t.2)) : (y, t2) = tPass t n := by
  subst hx hy ht
  exact (if_pos h).symm
def tAsOf (t : TT) (v : Int32) : Int32 × TT := if v.toInt = -1 ∨ (0 ≤ v.toInt ∧ v.toInt ≤ (t.1.getD 0 0).toInt) then (t.1.getD 1 0, (t.1.set 1 v, t.2)) else (-2, t)
theorem tAsOf_bad {t : TT} {v x : Int32} (hx : x = t.1.getD 0 0) (h : ¬ (v.toInt = -1 ∨ (0 ≤ v.toInt ∧ v.toInt ≤ x.toInt))) : ((-2 : Int32), t) = tAsOf t v := by
  subst hx
  exact (if_neg h).symm
theorem tAsOf_ok {t t2 : TT} {v x y : Int32} (hx : x = t.1.getD 0 0) (h : v.toInt = -1 ∨ (0 ≤ v.toInt ∧ v.toInt ≤ x.toInt)) (hy : y = t.1.getD 1 0) (ht : t2 = (t.1.set 1 v, t.2)) : (y, t2) = tAsOf t v := by
  subst hx hy ht
  exact (if_pos h).symm
def tGroup (t : TT) (p g : Int32) : Int32 × TT := if (0 ≤ p.toInt ∧ p.toInt < 24) ∧ (0 ≤ g.toInt ∧ g.toInt < 4) then (t.2.1 p.toNatClampNeg, (t.1, upd t.2.1 p.toNatClampNeg g, t.2.2)) else (-2, t)
theorem tGroup_bad {t : TT} {p g : Int32} (h : ¬ ((0 ≤ p.toInt ∧ p.toInt < 24) ∧ (0 ≤ g.toInt ∧ g.toInt < 4))) : ((-2 : Int32), t) = tGroup t p g := (if_neg h).symm
theorem tGroup_ok {t t2 : TT} {p g x : Int32} {f : Nat → Int32} (h : (0 ≤ p.toInt ∧ p.toInt < 24) ∧ (0 ≤ g.toInt ∧ g.toInt < 4)) (hx : x = t.2.1 p.toNatClampNeg) (hf : f = upd t.2.1 p.toNatClampNeg g) (ht : t2 = (t.1, f, t.2.2)) : (x, t2) = tGroup t p g := by
  subst hx hf ht
  exact (if_pos h).symm
def tSheet (t : TT) (s ty n : Int32) : Int32 × TT := if (0 ≤ s.toInt ∧ s.toInt < 4) ∧ (0 ≤ ty.toInt ∧ ty.toInt < 3) ∧ n.toInt ≤ 60 then (if 0 ≤ n.toInt then (n, ((t.1.set (8 + 2 * s.toNatClampNeg) ty).set (9 + 2 * s.toNatClampNeg) n, t.2)) else (-15, t)) else (-2, t)
theorem tSheet_bad {t : TT} {s ty n : Int32} (h : ¬ ((0 ≤ s.toInt ∧ s.toInt < 4) ∧ (0 ≤ ty.toInt ∧ ty.toInt < 3) ∧ n.toInt ≤ 60)) : ((-2 : Int32), t) = tSheet t s ty n := (if_neg h).symm
theorem tSheet_neg {t t2 : TT} {s ty n r : Int32} (h : (0 ≤ s.toInt ∧ s.toInt < 4) ∧ (0 ≤ ty.toInt ∧ ty.toInt < 3) ∧ n.toInt ≤ 60) (h2 : ¬ 0 ≤ n.toInt) (hr : r = -15) (ht : t2 = t) : (r, t2) = tSheet t s ty n := by
  subst hr ht
  exact ((if_pos h).trans (if_neg h2)).symm
theorem tSheet_ok {t t2 : TT} {s ty n : Int32} {m : Nat} (h : (0 ≤ s.toInt ∧ s.toInt < 4) ∧ (0 ≤ ty.toInt ∧ ty.toInt < 3) ∧ n.toInt ≤ 60) (h2 : 0 ≤ n.toInt) (hm : m = s.toNatClampNeg) (ht : t2 = ((t.1.set (8 + 2 * m) ty).set (9 + 2 * m) n, t.2)) : (n, t2) = tSheet t s ty n := by
  subst hm ht
  exact ((if_pos h).trans (if_pos h2)).symm
def tLose (t : TT) (s : Int32) : Int32 × TT := if (0 ≤ s.toInt ∧ s.toInt < 4) then (if (tK t s.toNatClampNeg).toInt = -1 then (-11, t) else (tN t s.toNatClampNeg, ((t.1.set (8 + 2 * s.toNatClampNeg) (-1)).set (9 + 2 * s.toNatClampNeg) 0, t.2))) else (-2, t)
theorem tLose_bad {t : TT} {s : Int32} (h : ¬ (0 ≤ s.toInt ∧ s.toInt < 4)) : ((-2 : Int32), t) = tLose t s := (if_neg h).symm
theorem tLose_lost {t t2 : TT} {s k r : Int32} {m : Nat} (h : (0 ≤ s.toInt ∧ s.toInt < 4)) (hm : m = s.toNatClampNeg) (hk : tK t m = k) (h2 : k.toInt = -1) (hr : r = -11) (ht : t2 = t) : (r, t2) = tLose t s := by
  subst hm hk hr ht
  exact ((if_pos h).trans (if_pos h2)).symm
theorem tLose_ok {t t2 : TT} {s k y : Int32} {m : Nat} (h : (0 ≤ s.toInt ∧ s.toInt < 4)) (hm : m = s.toNatClampNeg) (hk : tK t m = k) (h2 : ¬ k.toInt = -1) (hy : tN t m = y) (ht : t2 = ((t.1.set (8 + 2 * m) (-1)).set (9 + 2 * m) 0, t.2)) : (y, t2) = tLose t s := by
  subst hm hk hy ht
  exact ((if_pos h).trans (if_neg h2)).symm
def tPut (t : TT) (s ty i : Int32) : Int32 := if (0 ≤ s.toInt ∧ s.toInt < 4) ∧ (0 ≤ ty.toInt ∧ ty.toInt < 3) then (if (tK t s.toNatClampNeg).toInt = -1 then -11 else if (tK t s.toNatClampNeg).toInt = ty.toInt then (if 0 ≤ i.toInt ∧ i.toInt < (tN t s.toNatClampNeg).toInt then 1 else -12) else -13) else -2
theorem tPut_bad {t : TT} {s ty i : Int32} (h : ¬ ((0 ≤ s.toInt ∧ s.toInt < 4) ∧ (0 ≤ ty.toInt ∧ ty.toInt < 3))) : (-2 : Int32) = tPut t s ty i := (if_neg h).symm
theorem tPut_1 {t : TT} {s ty i k r : Int32} {m : Nat} (h : (0 ≤ s.toInt ∧ s.toInt < 4) ∧ (0 ≤ ty.toInt ∧ ty.toInt < 3)) (hm : m = s.toNatClampNeg) (hk : tK t m = k) (h1 : k.toInt = -1) (hr : r = -11) : r = tPut t s ty i := by
  subst hm hk hr
  exact ((if_pos h).trans (if_pos h1)).symm
theorem tPut_3 {t : TT} {s ty i k r : Int32} {m : Nat} (h : (0 ≤ s.toInt ∧ s.toInt < 4) ∧ (0 ≤ ty.toInt ∧ ty.toInt < 3)) (hm : m = s.toNatClampNeg) (hk : tK t m = k) (h1 : ¬ k.toInt = -1) (h2 : ¬ k.toInt = ty.toInt) (hr : r = -13) : r = tPut t s ty i := by
  subst hm hk hr
  exact ((if_pos h).trans ((if_neg h1).trans (if_neg h2))).symm
theorem tPut_2 {t : TT} {s ty i k n r : Int32} {m : Nat} (h : (0 ≤ s.toInt ∧ s.toInt < 4) ∧ (0 ≤ ty.toInt ∧ ty.toInt < 3)) (hm : m = s.toNatClampNeg) (hk : tK t m = k) (h1 : ¬ k.toInt = -1) (h2 : k.toInt = ty.toInt) (hz : tN t m = n) (h3 : ¬ (0 ≤ i.toInt ∧ i.toInt < n.toInt)) (hr : r = -12) : r = tPut t s ty i := by
  subst hm hk hz hr
  exact ((if_pos h).trans ((if_neg h1).trans ((if_pos h2).trans (if_neg h3)))).symm
theorem tPut_0 {t : TT} {s ty i k n r : Int32} {m : Nat} (h : (0 ≤ s.toInt ∧ s.toInt < 4) ∧ (0 ≤ ty.toInt ∧ ty.toInt < 3)) (hm : m = s.toNatClampNeg) (hk : tK t m = k) (h1 : ¬ k.toInt = -1) (h2 : k.toInt = ty.toInt) (hz : tN t m = n) (h3 : 0 ≤ i.toInt ∧ i.toInt < n.toInt) (hr : r = 1) : r = tPut t s ty i := by
  subst hm hk hz hr
  exact ((if_pos h).trans ((if_neg h1).trans ((if_pos h2).trans (if_pos h3)))).symm
def tCopy (t : TT) (s i s2 j n : Int32) : Int32 := if (0 ≤ s.toInt ∧ s.toInt < 4) ∧ (0 ≤ s2.toInt ∧ s2.toInt < 4) then (if (tK t s.toNatClampNeg).toInt = -1 ∨ (tK t s2.toNatClampNeg).toInt = -1 then -11 else if (tK t s.toNatClampNeg).toInt = (tK t s2.toNatClampNeg).toInt then (if 0 ≤ i.toInt ∧ 0 ≤ j.toInt ∧ 0 ≤ n.toInt ∧ i.toInt + n.toInt ≤ (tN t s.toNatClampNeg).toInt ∧ j.toInt + n.toInt ≤ (tN t s2.toNatClampNeg).toInt then 1 else -12) else -14) else -2
theorem tCopy_bad {t : TT} {s i s2 j n : Int32} (h : ¬ ((0 ≤ s.toInt ∧ s.toInt < 4) ∧ (0 ≤ s2.toInt ∧ s2.toInt < 4))) : (-2 : Int32) = tCopy t s i s2 j n := (if_neg h).symm
theorem tCopy_1 {t : TT} {s i s2 j n k k2 r : Int32} {m m2 : Nat} (h : (0 ≤ s.toInt ∧ s.toInt < 4) ∧ (0 ≤ s2.toInt ∧ s2.toInt < 4)) (hm : m = s.toNatClampNeg) (hm2 : m2 = s2.toNatClampNeg) (hk : tK t m = k) (hk2 : tK t m2 = k2) (h1 : k.toInt = -1 ∨ k2.toInt = -1) (hr : r = -11) : r = tCopy t s i s2 j n := by
  subst hm hm2 hk hk2 hr
  exact ((if_pos h).trans (if_pos h1)).symm
theorem tCopy_4 {t : TT} {s i s2 j n k k2 r : Int32} {m m2 : Nat} (h : (0 ≤ s.toInt ∧ s.toInt < 4) ∧ (0 ≤ s2.toInt ∧ s2.toInt < 4)) (hm : m = s.toNatClampNeg) (hm2 : m2 = s2.toNatClampNeg) (hk : tK t m = k) (hk2 : tK t m2 = k2) (h1 : ¬ (k.toInt = -1 ∨ k2.toInt = -1)) (h2 : ¬ k.toInt = k2.toInt) (hr : r = -14) : r = tCopy t s i s2 j n := by
  subst hm hm2 hk hk2 hr
  exact ((if_pos h).trans ((if_neg h1).trans (if_neg h2))).symm
theorem tCopy_2 {t : TT} {s i s2 j n k k2 a b r : Int32} {m m2 : Nat} (h : (0 ≤ s.toInt ∧ s.toInt < 4) ∧ (0 ≤ s2.toInt ∧ s2.toInt < 4)) (hm : m = s.toNatClampNeg) (hm2 : m2 = s2.toNatClampNeg) (hk : tK t m = k) (hk2 : tK t m2 = k2) (ha : tN t m = a) (hb : tN t m2 = b) (h1 : ¬ (k.toInt = -1 ∨ k2.toInt = -1)) (h2 : k.toInt = k2.toInt) (h3 : ¬ (0 ≤ i.toInt ∧ 0 ≤ j.toInt ∧ 0 ≤ n.toInt ∧ i.toInt + n.toInt ≤ a.toInt ∧ j.toInt + n.toInt ≤ b.toInt)) (hr : r = -12) : r = tCopy t s i s2 j n := by
  subst hm hm2 hk hk2 ha hb hr
  exact ((if_pos h).trans ((if_neg h1).trans ((if_pos h2).trans (if_neg h3)))).symm
theorem tCopy_0 {t : TT} {s i s2 j n k k2 a b r : Int32} {m m2 : Nat} (h : (0 ≤ s.toInt ∧ s.toInt < 4) ∧ (0 ≤ s2.toInt ∧ s2.toInt < 4)) (hm : m = s.toNatClampNeg) (hm2 : m2 = s2.toNatClampNeg) (hk : tK t m = k) (hk2 : tK t m2 = k2) (ha : tN t m = a) (hb : tN t m2 = b) (h1 : ¬ (k.toInt = -1 ∨ k2.toInt = -1)) (h2 : k.toInt = k2.toInt) (h3 : 0 ≤ i.toInt ∧ 0 ≤ j.toInt ∧ 0 ≤ n.toInt ∧ i.toInt + n.toInt ≤ a.toInt ∧ j.toInt + n.toInt ≤ b.toInt) (hr : r = 1) : r = tCopy t s i s2 j n := by
  subst hm hm2 hk hk2 ha hb hr
  exact ((if_pos h).trans ((if_neg h1).trans ((if_pos h2).trans (if_pos h3)))).symm
/-! the reference's side -/
def kM (z : ZS) (d : Nat) : Int32 := if (z.2.2.1 36 d).toInt = 0 then -1 else z.2.2.1 37 d
def nM (z : ZS) (d : Nat) : Int32 := if (z.2.2.1 36 d).toInt = 0 then 0 else z.2.2.1 38 d
def TXr (tx : Nat → Int32) (d : Nat) : Nat → Int32 := tr60 (fun i => tx (60 * d + i))
theorem TXr_at {tx : Nat → Int32} {d i : Nat} (h : i < 60) : TXr tx d i = tx (60 * d + i) := if_pos h
def bRf (ty tx : Nat → Int32) (d : Nat) : Int → Int := bX (ty d) (TXr tx d)
def FR (ty tx : Nat → Int32) (d : Nat) : Int := pF (bX (ty d) (TXr tx d)) (ty d).toInt
def trM (z : ZS) : TT := ([z.1 19, z.1 20, z.1 11, z.1 35, z.2.2.1 2 0, z.2.2.1 2 1, z.2.2.1 2 2, z.2.2.1 2 3, kM z 0, nM z 0, kM z 1, nM z 1, kM z 2, nM z 2, kM z 3, nM z 3, Int32.ofInt (FR (z.2.2.1 2) (z.2.2.1 3) 0), Int32.ofInt (FR (z.2.2.1 2) (z.2.2.1 3) 1), Int32.ofInt (FR (z.2.2.1 2) (z.2.2.1 3) 2), Int32.ofInt (FR (z.2.2.1 2) (z.2.2.1 3) 3)], z.2.2.1 21, [TXr (z.2.2.1 3) 0, TXr (z.2.2.1 3) 1, TXr (z.2.2.1 3) 2, TXr (z.2.2.1 3) 3])
theorem TXr_same {f : Nat → Int32} {d k x : Nat} {b : Int32} (hk : k ≠ d) (hx : x < 60) : TXr (upd f (60 * d + x) b) k = TXr f k := funext fun i => by
  show (if i < 60 then upd f (60 * d + x) b (60 * k + i) else 0) = (if i < 60 then f (60 * k + i) else 0)
  by_cases q : i < 60
  · rw [if_pos q, if_pos q, pk_un (by omega)]
  · rw [if_neg q, if_neg q]
theorem TXr_upd {f : Nat → Int32} {d x : Nat} {b : Int32} (hx : x < 60) : TXr (upd f (60 * d + x) b) d = upd (TXr f d) x b := funext fun i => by
  by_cases q : i = x
  · subst q
    show (if i < 60 then upd f (60 * d + i) b (60 * d + i) else 0) = upd (TXr f d) i b i
    rw [if_pos hx, pk_us, pk_us]
  · show (if i < 60 then upd f (60 * d + x) b (60 * d + i) else 0) = upd (TXr f d) x b i
    rw [pk_un q, pk_un (by omega)]
    rfl
theorem FR_same {ty tx : Nat → Int32} {d k x : Nat} {y b : Int32} (hk : k ≠ d) (hx : x < 60) : FR (upd ty d y) (upd tx (60 * d + x) b) k = FR ty tx k := by
  unfold FR
  rw [TXr_same hk hx, pk_un hk]
theorem FR_same2 {ty tx : Nat → Int32} {d k : Nat} {y : Int32} (hk : k ≠ d) : FR (upd ty d y) tx k = FR ty tx k := by
  unfold FR
  rw [pk_un hk]
def T3 (f : Nat → Int32) : Prop := ∀ d : Nat, d < 4 → 0 ≤ (f d).toInt
theorem T3_upd {f f2 : Nat → Int32} {d v : Int32} (h : T3 f) (e : f2 = upd f d.toNatClampNeg v) (hv : 0 ≤ v.toInt) : T3 f2 := fun k hk => by
  by_cases q : k = d.toNatClampNeg
  · rw [e, q, pk_us]; exact hv
  · rw [e, pk_un q]; exact h k hk
theorem trM_Dg {z : ZS} : ∀ {d : Nat}, d < 4 → tD (trM z) d = z.2.2.1 2 d
  | 0, _ => rfl
  | 1, _ => rfl
  | 2, _ => rfl
  | 3, _ => rfl
  | _ + 4, h => absurd h (by omega)
theorem trM_Kg {z : ZS} : ∀ {d : Nat}, d < 4 → tK (trM z) d = kM z d ∧ tN (trM z) d = nM z d
  | 0, _ => ⟨rfl, rfl⟩
  | 1, _ => ⟨rfl, rfl⟩
  | 2, _ => ⟨rfl, rfl⟩
  | 3, _ => ⟨rfl, rfl⟩
  | _ + 4, h => absurd h (by omega)
theorem trM_ty {z : ZS} {y b : Int32} {g : Nat → Int32} {x : Nat} (hx : x < 60) : ∀ {d : Nat}, d < 4 → ∀ {j : Nat}, j = 60 * d + x → trM (sA (sA (sA z 2 (upd (z.2.2.1 2) d y)) 3 (upd (z.2.2.1 3) j b)) 4 g) = tFix ((trM z).1.set (4 + d) y, (trM z).2.1, (trM z).2.2.set d (upd ((trM z).2.2.getD d (fun _ => 0)) x b)) d
  | 0, _, _, hj => by
    subst hj
    unfold trM
    show (([_, _, _, _, _, _, _, _, _, _, _, _, _, _, _, _, Int32.ofInt (FR (upd (z.2.2.1 2) 0 y) (upd (z.2.2.1 3) (60 * 0 + x) b) 0), Int32.ofInt (FR (upd (z.2.2.1 2) 0 y) (upd (z.2.2.1 3) (60 * 0 + x) b) 1), Int32.ofInt (FR (upd (z.2.2.1 2) 0 y) (upd (z.2.2.1 3) (60 * 0 + x) b) 2), Int32.ofInt (FR (upd (z.2.2.1 2) 0 y) (upd (z.2.2.1 3) (60 * 0 + x) b) 3)], _, [TXr (upd (z.2.2.1 3) (60 * 0 + x) b) 0, TXr (upd (z.2.2.1 3) (60 * 0 + x) b) 1, TXr (upd (z.2.2.1 3) (60 * 0 + x) b) 2, TXr (upd (z.2.2.1 3) (60 * 0 + x) b) 3]) : TT) = _
    rw [FR_same (k := 1) (d := 0) (by decide) hx, FR_same (k := 2) (d := 0) (by decide) hx, FR_same (k := 3) (d := 0) (by decide) hx, show FR (upd (z.2.2.1 2) 0 y) (upd (z.2.2.1 3) (60 * 0 + x) b) 0 = pF (bX y (upd (TXr (z.2.2.1 3) 0) x b)) y.toInt by unfold FR; rw [TXr_upd hx, pk_us], TXr_same (k := 1) (d := 0) (by decide) hx, TXr_same (k := 2) (d := 0) (by decide) hx, TXr_same (k := 3) (d := 0) (by decide) hx, TXr_upd hx]
    rfl
  | 1, _, _, hj => by
    subst hj
    unfold trM
    show (([_, _, _, _, _, _, _, _, _, _, _, _, _, _, _, _, Int32.ofInt (FR (upd (z.2.2.1 2) 1 y) (upd (z.2.2.1 3) (60 * 1 + x) b) 0), Int32.ofInt (FR (upd (z.2.2.1 2) 1 y) (upd (z.2.2.1 3) (60 * 1 + x) b) 1), Int32.ofInt (FR (upd (z.2.2.1 2) 1 y) (upd (z.2.2.1 3) (60 * 1 + x) b) 2), Int32.ofInt (FR (upd (z.2.2.1 2) 1 y) (upd (z.2.2.1 3) (60 * 1 + x) b) 3)], _, [TXr (upd (z.2.2.1 3) (60 * 1 + x) b) 0, TXr (upd (z.2.2.1 3) (60 * 1 + x) b) 1, TXr (upd (z.2.2.1 3) (60 * 1 + x) b) 2, TXr (upd (z.2.2.1 3) (60 * 1 + x) b) 3]) : TT) = _
    rw [FR_same (k := 0) (d := 1) (by decide) hx, FR_same (k := 2) (d := 1) (by decide) hx, FR_same (k := 3) (d := 1) (by decide) hx, show FR (upd (z.2.2.1 2) 1 y) (upd (z.2.2.1 3) (60 * 1 + x) b) 1 = pF (bX y (upd (TXr (z.2.2.1 3) 1) x b)) y.toInt by unfold FR; rw [TXr_upd hx, pk_us], TXr_same (k := 0) (d := 1) (by decide) hx, TXr_same (k := 2) (d := 1) (by decide) hx, TXr_same (k := 3) (d := 1) (by decide) hx, TXr_upd hx]
    rfl
  | 2, _, _, hj => by
    subst hj
    unfold trM
    show (([_, _, _, _, _, _, _, _, _, _, _, _, _, _, _, _, Int32.ofInt (FR (upd (z.2.2.1 2) 2 y) (upd (z.2.2.1 3) (60 * 2 + x) b) 0), Int32.ofInt (FR (upd (z.2.2.1 2) 2 y) (upd (z.2.2.1 3) (60 * 2 + x) b) 1), Int32.ofInt (FR (upd (z.2.2.1 2) 2 y) (upd (z.2.2.1 3) (60 * 2 + x) b) 2), Int32.ofInt (FR (upd (z.2.2.1 2) 2 y) (upd (z.2.2.1 3) (60 * 2 + x) b) 3)], _, [TXr (upd (z.2.2.1 3) (60 * 2 + x) b) 0, TXr (upd (z.2.2.1 3) (60 * 2 + x) b) 1, TXr (upd (z.2.2.1 3) (60 * 2 + x) b) 2, TXr (upd (z.2.2.1 3) (60 * 2 + x) b) 3]) : TT) = _
    rw [FR_same (k := 0) (d := 2) (by decide) hx, FR_same (k := 1) (d := 2) (by decide) hx, FR_same (k := 3) (d := 2) (by decide) hx, show FR (upd (z.2.2.1 2) 2 y) (upd (z.2.2.1 3) (60 * 2 + x) b) 2 = pF (bX y (upd (TXr (z.2.2.1 3) 2) x b)) y.toInt by unfold FR; rw [TXr_upd hx, pk_us], TXr_same (k := 0) (d := 2) (by decide) hx, TXr_same (k := 1) (d := 2) (by decide) hx, TXr_same (k := 3) (d := 2) (by decide) hx, TXr_upd hx]
    rfl
  | 3, _, _, hj => by
    subst hj
    unfold trM
    show (([_, _, _, _, _, _, _, _, _, _, _, _, _, _, _, _, Int32.ofInt (FR (upd (z.2.2.1 2) 3 y) (upd (z.2.2.1 3) (60 * 3 + x) b) 0), Int32.ofInt (FR (upd (z.2.2.1 2) 3 y) (upd (z.2.2.1 3) (60 * 3 + x) b) 1), Int32.ofInt (FR (upd (z.2.2.1 2) 3 y) (upd (z.2.2.1 3) (60 * 3 + x) b) 2), Int32.ofInt (FR (upd (z.2.2.1 2) 3 y) (upd (z.2.2.1 3) (60 * 3 + x) b) 3)], _, [TXr (upd (z.2.2.1 3) (60 * 3 + x) b) 0, TXr (upd (z.2.2.1 3) (60 * 3 + x) b) 1, TXr (upd (z.2.2.1 3) (60 * 3 + x) b) 2, TXr (upd (z.2.2.1 3) (60 * 3 + x) b) 3]) : TT) = _
    rw [FR_same (k := 0) (d := 3) (by decide) hx, FR_same (k := 1) (d := 3) (by decide) hx, FR_same (k := 2) (d := 3) (by decide) hx, show FR (upd (z.2.2.1 2) 3 y) (upd (z.2.2.1 3) (60 * 3 + x) b) 3 = pF (bX y (upd (TXr (z.2.2.1 3) 3) x b)) y.toInt by unfold FR; rw [TXr_upd hx, pk_us], TXr_same (k := 0) (d := 3) (by decide) hx, TXr_same (k := 1) (d := 3) (by decide) hx, TXr_same (k := 2) (d := 3) (by decide) hx, TXr_upd hx]
    rfl
  | _ + 4, h, _, _ => absurd h (by omega)
theorem trM_wi {z : ZS} {y : Int32} {g : Nat → Int32} : ∀ {d : Nat}, d < 4 → trM (sA (sA z 2 (upd (z.2.2.1 2) d y)) 4 g) = tFix ((trM z).1.set (4 + d) y, (trM z).2) d
  | 0, _ => rfl
  | 1, _ => rfl
  | 2, _ => rfl
  | 3, _ => rfl
  | _ + 4, h => absurd h (by omega)
theorem trM_ot {z : ZS} {v : Int32} : trM (sI z 11 v) = tFixs ((trM z).1.set 2 v, (trM z).2) 4 := rfl
theorem trM_Fg {z : ZS} : ∀ {d : Nat}, d < 4 → tF (trM z) d = Int32.ofInt (FR (z.2.2.1 2) (z.2.2.1 3) d)
  | 0, _ => rfl
  | 1, _ => rfl
  | 2, _ => rfl
  | 3, _ => rfl
  | _ + 4, h => absurd h (by omega)
theorem kM_in {z : ZS} {d : Nat} (h : ¬ (z.2.2.1 36 d).toInt = 0) : kM z d = z.2.2.1 37 d ∧ nM z d = z.2.2.1 38 d := ⟨if_neg h, if_neg h⟩
theorem kM_out {z : ZS} {d : Nat} (h : (z.2.2.1 36 d).toInt = 0) : kM z d = -1 ∧ nM z d = 0 := ⟨if_pos h, if_pos h⟩
theorem trM_sh {z : ZS} {v a b : Int32} {f : Nat → Int32} {g : Int32} (hv : ¬ v.toInt = 0) : ∀ {d : Nat}, d < 4 → trM (sI (sA (sA (sA (sA z 36 (upd (z.2.2.1 36) d v)) 37 (upd (z.2.2.1 37) d a)) 38 (upd (z.2.2.1 38) d b)) 39 f) 41 g) = (((trM z).1.set (8 + 2 * d) a).set (9 + 2 * d) b, (trM z).2)
  | 0, _ => congrArg (fun x : Int32 × Int32 => (([z.1 19, z.1 20, z.1 11, z.1 35, z.2.2.1 2 0, z.2.2.1 2 1, z.2.2.1 2 2, z.2.2.1 2 3, x.1, x.2, kM z 1, nM z 1, kM z 2, nM z 2, kM z 3, nM z 3, Int32.ofInt (FR (z.2.2.1 2) (z.2.2.1 3) 0), Int32.ofInt (FR (z.2.2.1 2) (z.2.2.1 3) 1), Int32.ofInt (FR (z.2.2.1 2) (z.2.2.1 3) 2), Int32.ofInt (FR (z.2.2.1 2) (z.2.2.1 3) 3)], z.2.2.1 21, [TXr (z.2.2.1 3) 0, TXr (z.2.2.1 3) 1, TXr (z.2.2.1 3) 2, TXr (z.2.2.1 3) 3]) : TT)) (Prod.ext (if_neg hv) (if_neg hv) : ((if v.toInt = 0 then -1 else a, if v.toInt = 0 then 0 else b) : Int32 × Int32) = (a, b))
  | 1, _ => congrArg (fun x : Int32 × Int32 => (([z.1 19, z.1 20, z.1 11, z.1 35, z.2.2.1 2 0, z.2.2.1 2 1, z.2.2.1 2 2, z.2.2.1 2 3, kM z 0, nM z 0, x.1, x.2, kM z 2, nM z 2, kM z 3, nM z 3, Int32.ofInt (FR (z.2.2.1 2) (z.2.2.1 3) 0), Int32.ofInt (FR (z.2.2.1 2) (z.2.2.1 3) 1), Int32.ofInt (FR (z.2.2.1 2) (z.2.2.1 3) 2), Int32.ofInt (FR (z.2.2.1 2) (z.2.2.1 3) 3)], z.2.2.1 21, [TXr (z.2.2.1 3) 0, TXr (z.2.2.1 3) 1, TXr (z.2.2.1 3) 2, TXr (z.2.2.1 3) 3]) : TT)) (Prod.ext (if_neg hv) (if_neg hv) : ((if v.toInt = 0 then -1 else a, if v.toInt = 0 then 0 else b) : Int32 × Int32) = (a, b))
  | 2, _ => congrArg (fun x : Int32 × Int32 => (([z.1 19, z.1 20, z.1 11, z.1 35, z.2.2.1 2 0, z.2.2.1 2 1, z.2.2.1 2 2, z.2.2.1 2 3, kM z 0, nM z 0, kM z 1, nM z 1, x.1, x.2, kM z 3, nM z 3, Int32.ofInt (FR (z.2.2.1 2) (z.2.2.1 3) 0), Int32.ofInt (FR (z.2.2.1 2) (z.2.2.1 3) 1), Int32.ofInt (FR (z.2.2.1 2) (z.2.2.1 3) 2), Int32.ofInt (FR (z.2.2.1 2) (z.2.2.1 3) 3)], z.2.2.1 21, [TXr (z.2.2.1 3) 0, TXr (z.2.2.1 3) 1, TXr (z.2.2.1 3) 2, TXr (z.2.2.1 3) 3]) : TT)) (Prod.ext (if_neg hv) (if_neg hv) : ((if v.toInt = 0 then -1 else a, if v.toInt = 0 then 0 else b) : Int32 × Int32) = (a, b))
  | 3, _ => congrArg (fun x : Int32 × Int32 => (([z.1 19, z.1 20, z.1 11, z.1 35, z.2.2.1 2 0, z.2.2.1 2 1, z.2.2.1 2 2, z.2.2.1 2 3, kM z 0, nM z 0, kM z 1, nM z 1, kM z 2, nM z 2, x.1, x.2, Int32.ofInt (FR (z.2.2.1 2) (z.2.2.1 3) 0), Int32.ofInt (FR (z.2.2.1 2) (z.2.2.1 3) 1), Int32.ofInt (FR (z.2.2.1 2) (z.2.2.1 3) 2), Int32.ofInt (FR (z.2.2.1 2) (z.2.2.1 3) 3)], z.2.2.1 21, [TXr (z.2.2.1 3) 0, TXr (z.2.2.1 3) 1, TXr (z.2.2.1 3) 2, TXr (z.2.2.1 3) 3]) : TT)) (Prod.ext (if_neg hv) (if_neg hv) : ((if v.toInt = 0 then -1 else a, if v.toInt = 0 then 0 else b) : Int32 × Int32) = (a, b))
  | _ + 4, h => absurd h (by omega)
theorem trM_lo {z : ZS} {v : Int32} {g : Int32} (hv : v.toInt = 0) : ∀ {d : Nat}, d < 4 → trM (sI (sA z 36 (upd (z.2.2.1 36) d v)) 41 g) = (((trM z).1.set (8 + 2 * d) (-1)).set (9 + 2 * d) 0, (trM z).2)
  | 0, _ => congrArg (fun x : Int32 × Int32 => (([z.1 19, z.1 20, z.1 11, z.1 35, z.2.2.1 2 0, z.2.2.1 2 1, z.2.2.1 2 2, z.2.2.1 2 3, x.1, x.2, kM z 1, nM z 1, kM z 2, nM z 2, kM z 3, nM z 3, Int32.ofInt (FR (z.2.2.1 2) (z.2.2.1 3) 0), Int32.ofInt (FR (z.2.2.1 2) (z.2.2.1 3) 1), Int32.ofInt (FR (z.2.2.1 2) (z.2.2.1 3) 2), Int32.ofInt (FR (z.2.2.1 2) (z.2.2.1 3) 3)], z.2.2.1 21, [TXr (z.2.2.1 3) 0, TXr (z.2.2.1 3) 1, TXr (z.2.2.1 3) 2, TXr (z.2.2.1 3) 3]) : TT)) (Prod.ext (if_pos hv) (if_pos hv) : ((if v.toInt = 0 then -1 else z.2.2.1 37 0, if v.toInt = 0 then 0 else z.2.2.1 38 0) : Int32 × Int32) = (-1, 0))
  | 1, _ => congrArg (fun x : Int32 × Int32 => (([z.1 19, z.1 20, z.1 11, z.1 35, z.2.2.1 2 0, z.2.2.1 2 1, z.2.2.1 2 2, z.2.2.1 2 3, kM z 0, nM z 0, x.1, x.2, kM z 2, nM z 2, kM z 3, nM z 3, Int32.ofInt (FR (z.2.2.1 2) (z.2.2.1 3) 0), Int32.ofInt (FR (z.2.2.1 2) (z.2.2.1 3) 1), Int32.ofInt (FR (z.2.2.1 2) (z.2.2.1 3) 2), Int32.ofInt (FR (z.2.2.1 2) (z.2.2.1 3) 3)], z.2.2.1 21, [TXr (z.2.2.1 3) 0, TXr (z.2.2.1 3) 1, TXr (z.2.2.1 3) 2, TXr (z.2.2.1 3) 3]) : TT)) (Prod.ext (if_pos hv) (if_pos hv) : ((if v.toInt = 0 then -1 else z.2.2.1 37 1, if v.toInt = 0 then 0 else z.2.2.1 38 1) : Int32 × Int32) = (-1, 0))
  | 2, _ => congrArg (fun x : Int32 × Int32 => (([z.1 19, z.1 20, z.1 11, z.1 35, z.2.2.1 2 0, z.2.2.1 2 1, z.2.2.1 2 2, z.2.2.1 2 3, kM z 0, nM z 0, kM z 1, nM z 1, x.1, x.2, kM z 3, nM z 3, Int32.ofInt (FR (z.2.2.1 2) (z.2.2.1 3) 0), Int32.ofInt (FR (z.2.2.1 2) (z.2.2.1 3) 1), Int32.ofInt (FR (z.2.2.1 2) (z.2.2.1 3) 2), Int32.ofInt (FR (z.2.2.1 2) (z.2.2.1 3) 3)], z.2.2.1 21, [TXr (z.2.2.1 3) 0, TXr (z.2.2.1 3) 1, TXr (z.2.2.1 3) 2, TXr (z.2.2.1 3) 3]) : TT)) (Prod.ext (if_pos hv) (if_pos hv) : ((if v.toInt = 0 then -1 else z.2.2.1 37 2, if v.toInt = 0 then 0 else z.2.2.1 38 2) : Int32 × Int32) = (-1, 0))
  | 3, _ => congrArg (fun x : Int32 × Int32 => (([z.1 19, z.1 20, z.1 11, z.1 35, z.2.2.1 2 0, z.2.2.1 2 1, z.2.2.1 2 2, z.2.2.1 2 3, kM z 0, nM z 0, kM z 1, nM z 1, kM z 2, nM z 2, x.1, x.2, Int32.ofInt (FR (z.2.2.1 2) (z.2.2.1 3) 0), Int32.ofInt (FR (z.2.2.1 2) (z.2.2.1 3) 1), Int32.ofInt (FR (z.2.2.1 2) (z.2.2.1 3) 2), Int32.ofInt (FR (z.2.2.1 2) (z.2.2.1 3) 3)], z.2.2.1 21, [TXr (z.2.2.1 3) 0, TXr (z.2.2.1 3) 1, TXr (z.2.2.1 3) 2, TXr (z.2.2.1 3) 3]) : TT)) (Prod.ext (if_pos hv) (if_pos hv) : ((if v.toInt = 0 then -1 else z.2.2.1 37 3, if v.toInt = 0 then 0 else z.2.2.1 38 3) : Int32 × Int32) = (-1, 0))
  | _ + 4, h => absurd h (by omega)
theorem xsD_1 {z u : ZS} : ∀ {d : Nat}, d < 4 → (xsD z d u).1 (10 + 6 * d + 1) = u.1 1
  | 0, _ => rfl
  | 1, _ => rfl
  | 2, _ => rfl
  | 3, _ => rfl
  | _ + 4, h => absurd h (by omega)
theorem z_nar {x : Int32} (h : x = 0 ∨ x = 1) : narrow .boolean (.int x) = .int x := by
  rcases h with rfl | rfl <;> rfl
def tWrite (t : TT) (d s : Int32) : Int32 := if (0 ≤ d.toInt ∧ d.toInt < 4) ∧ (0 ≤ s.toInt ∧ s.toInt < 4) then (if (tK t s.toNatClampNeg).toInt = -1 then -11 else if (tF t d.toNatClampNeg).toInt = -1 then (if 24 < (tN t s.toNatClampNeg).toInt then 24 else tN t s.toNatClampNeg) else -3) else -2
theorem tWrite_bad {t : TT} {d s : Int32} (h : ¬ ((0 ≤ d.toInt ∧ d.toInt < 4) ∧ (0 ≤ s.toInt ∧ s.toInt < 4))) : (-2 : Int32) = tWrite t d s := (if_neg h).symm
theorem tWrite_1 {t : TT} {d s k r : Int32} {m : Nat} (h : (0 ≤ d.toInt ∧ d.toInt < 4) ∧ (0 ≤ s.toInt ∧ s.toInt < 4)) (hm : m = s.toNatClampNeg) (hk : tK t m = k) (h1 : k.toInt = -1) (hr : r = -11) : r = tWrite t d s := by
  subst hm hk hr
  exact ((if_pos h).trans (if_pos h1)).symm
theorem tWrite_3 {t : TT} {d s k f r : Int32} {m n : Nat} (h : (0 ≤ d.toInt ∧ d.toInt < 4) ∧ (0 ≤ s.toInt ∧ s.toInt < 4)) (hm : m = s.toNatClampNeg) (hn : n = d.toNatClampNeg) (hk : tK t m = k) (h1 : ¬ k.toInt = -1) (hf : tF t n = f) (h2 : ¬ f.toInt = -1) (hr : r = -3) : r = tWrite t d s := by
  subst hm hn hk hf hr
  exact ((if_pos h).trans ((if_neg h1).trans (if_neg h2))).symm
theorem tWrite_0 {t : TT} {d s k f a r : Int32} {m n : Nat} (h : (0 ≤ d.toInt ∧ d.toInt < 4) ∧ (0 ≤ s.toInt ∧ s.toInt < 4)) (hm : m = s.toNatClampNeg) (hn : n = d.toNatClampNeg) (hk : tK t m = k) (h1 : ¬ k.toInt = -1) (hf : tF t n = f) (h2 : f.toInt = -1) (ha : tN t m = a) (hr : (24 < a.toInt ∧ r.toInt = 24) ∨ (a.toInt ≤ 24 ∧ r.toInt = a.toInt)) : r = tWrite t d s := by
  subst hm hn hk hf ha
  refine Eq.trans ?_ ((if_pos h).trans ((if_neg h1).trans (if_pos h2))).symm
  rcases hr with ⟨q1, q2⟩ | ⟨q1, q2⟩
  · rw [if_pos q1]
    exact Int32.toInt_inj.mp (q2.trans (by decide))
  · rw [if_neg (by omega)]
    exact Int32.toInt_inj.mp q2
theorem z_min24e {x y : Int32} (e : x = if (24 : Int32) < y then 24 else y) : (24 < y.toInt ∧ x.toInt = 24) ∨ (y.toInt ≤ 24 ∧ x.toInt = y.toInt) := by
  have q : (24 : Int32).toInt = 24 := by decide
  by_cases c : (24 : Int32) < y
  · rw [if_pos c] at e
    rw [Int32.lt_iff_toInt_lt] at c
    rw [e]; omega
  · rw [if_neg c] at e
    rw [Int32.lt_iff_toInt_lt] at c
    rw [e]; omega
/-! best: the search, over whole numbers -/
def bsp (n a b : Int) : Int := (n * a + (100 - n) * b) * (2400 - (n * a + (100 - n) * b))
def bsq (a b : Int) : Int := (a - b) * (a - b)
def bWi (v a b : Int) : Prop := a ≤ v * b ∧ 24 - b ≤ v * (24 - a)
def bLs (n a b A B : Int) : Prop := bsp n a b * bsq A B < bsp n A B * bsq a b
def BQ (A B : Int) : Prop := (A = -1 ∧ B = -1) ∨ (1 ≤ B ∧ B < A ∧ A ≤ 23)
noncomputable def bst (v n a b : Int) (s : Int × Int) : Int × Int := @ite _ (bWi v a b ∧ (s.1 = -1 ∨ bLs n a b s.1 s.2)) (Classical.propDecidable _) (a, b) s
noncomputable def bI (v n a : Int) : Nat → Int → Int × Int → Int × Int
  | 0, _, s => s
  | f + 1, b, s => bI v n a f (b + 1) (bst v n a b s)
noncomputable def bO (v n : Int) : Nat → Int → Int × Int → Int × Int
  | 0, _, s => s
  | f + 1, a, s => bO v n f (a + 1) (bI v n a (a - 1).toNat 1 s)
noncomputable def bR (v n : Int) : Int × Int := bO v n 22 2 (-1, -1)
theorem bWi_y {v a b : Int} (h1 : a ≤ v * b) (h2 : 24 - b ≤ v * (24 - a)) : bWi v a b := ⟨h1, h2⟩
theorem bst_p {v n a b A B : Int} (h1 : bWi v a b) (h2 : A = -1 ∨ bLs n a b A B) : bst v n a b (A, B) = (a, b) := by
  unfold bst
  exact if_pos ⟨h1, h2⟩
theorem bst_n1 {v n a b A B : Int} (h : ¬ a ≤ v * b) : bst v n a b (A, B) = (A, B) := by
  unfold bst
  exact if_neg (fun q => h q.1.1)
theorem bst_n2 {v n a b A B : Int} (h : ¬ 24 - b ≤ v * (24 - a)) : bst v n a b (A, B) = (A, B) := by
  unfold bst
  exact if_neg (fun q => h q.1.2)
theorem bst_n3 {v n a b A B : Int} (h : ¬ A = -1) (h2 : ¬ bLs n a b A B) : bst v n a b (A, B) = (A, B) := by
  unfold bst
  exact if_neg (fun q => q.2.elim h h2)
theorem bI_next {v n a b c : Int} {s s2 T : Int × Int} {F : Nat} (h : b < a) (hc : c = b + 1) (hs : bst v n a b s = s2) (ho : bO v n F (a + 1) (bI v n a (a - b).toNat b s) = T) : bO v n F (a + 1) (bI v n a (a - c).toNat c s2) = T := by
  have e : (a - b).toNat = (a - c).toNat + 1 := by omega
  rw [e, bI, hs, ← hc] at ho
  exact ho
theorem bI_end {v n a b c : Int} {s T : Int × Int} (h : a ≤ b) (hc : c = a + 1) (ho : bO v n (24 - (a + 1)).toNat (a + 1) (bI v n a (a - b).toNat b s) = T) : bO v n (24 - c).toNat c s = T := by
  have e : (a - b).toNat = 0 := by omega
  rw [e, bI, ← hc] at ho
  exact ho
theorem bO_step {v n a b : Int} {s T : Int × Int} (h : a < 24) (hb : b = 1) (ho : bO v n (24 - a).toNat a s = T) : bO v n (24 - (a + 1)).toNat (a + 1) (bI v n a (a - b).toNat b s) = T := by
  have e : (24 - a).toNat = (24 - (a + 1)).toNat + 1 := by omega
  rw [e, bO] at ho
  rw [hb]
  exact ho
theorem bO_end {v n a : Int} {s T : Int × Int} (h : 24 ≤ a) (ho : bO v n (24 - a).toNat a s = T) : s = T := by
  have e : (24 - a).toNat = 0 := by omega
  rw [e, bO] at ho
  exact ho
theorem bO_0 {v n a A B : Int} (ha : a = 2) (hA : A = -1) (hB : B = -1) : bO v n (24 - a).toNat a (A, B) = bR v n := by
  subst ha hA hB
  have e : ((24 : Int) - 2).toNat = 22 := by decide
  rw [e]
  unfold bR
  rfl
noncomputable def tBest (v n w : Int32) : Int32 := if (2 ≤ v.toInt ∧ v.toInt ≤ 30) ∧ (0 ≤ n.toInt ∧ n.toInt ≤ 100) ∧ (0 ≤ w.toInt ∧ w.toInt < 2) then Int32.ofInt (if (bR v.toInt n.toInt).1 = -1 then -3 else if w.toInt = 0 then (bR v.toInt n.toInt).1 else (bR v.toInt n.toInt).2) else -2
theorem tBest_bad {v n w : Int32} (h : ¬ ((2 ≤ v.toInt ∧ v.toInt ≤ 30) ∧ (0 ≤ n.toInt ∧ n.toInt ≤ 100) ∧ (0 ≤ w.toInt ∧ w.toInt < 2))) : (-2 : Int32) = tBest v n w := (if_neg h).symm
theorem tBest_r {v n w r : Int32} {A B : Int} (h : (2 ≤ v.toInt ∧ v.toInt ≤ 30) ∧ (0 ≤ n.toInt ∧ n.toInt ≤ 100) ∧ (0 ≤ w.toInt ∧ w.toInt < 2)) (he : (A, B) = bR v.toInt n.toInt) (hr : r.toInt = if A = -1 then -3 else if w.toInt = 0 then A else B) : r = tBest v n w := by
  unfold tBest
  rw [if_pos h, ← he, ← hr, Int32.ofInt_toInt]
