/-! what both sides keep alike whatever is faulty: day, day looked back to, other, limit, sizes of the designs, kinds and sizes of the sheets; the groups. Each call's answer, and what it leaves of these -/
abbrev tD (t : TT) (n : Nat) : Int32 := t.1.getD (4 + n) 0
abbrev tK (t : TT) (n : Nat) : Int32 := t.1.getD (8 + 2 * n) 0
abbrev tN (t : TT) (n : Nat) : Int32 := t.1.getD (9 + 2 * n) 0
abbrev tF (t : TT) (n : Nat) : Int32 := t.1.getD (16 + n) 0
/-- a design's bytes -/
def tB (t : TT) (n : Nat) : Int → Int := bX (tD t n) (t.2.2.getD n (fun _ => 0))
/-- the fault of a design, read anew -/
abbrev tA (t : TT) (n : Nat) : Ac := (pA (tB t n) (tD t n).toInt).2
abbrev tO (t : TT) : Int := (t.1.getD 2 0).toInt
def tFix (t : TT) (n : Nat) : TT := ((((t.1.set (16 + n) (Int32.ofInt (pF (tB t n) (tD t n).toInt))).set (20 + 3 * n) (lx (Int32.ofInt (pF (tB t n) (tD t n).toInt)) (Int32.ofInt (lU (tA t n) (tO t))))).set (21 + 3 * n) (lx (Int32.ofInt (pF (tB t n) (tD t n).toInt)) (Int32.ofInt (lY (tA t n) (tO t) 0)))).set (22 + 3 * n) (lx (Int32.ofInt (pF (tB t n) (tD t n).toInt)) (Int32.ofInt (lY (tA t n) (tO t) 1))), t.2)
def tFixs (t : TT) : Nat → TT
  | 0 => t
  | k + 1 => tFix (tFixs t k) k
theorem tFixs_s {t u : TT} {d : Nat} {i j : Int32} (h : u = tFix (tFixs t i.toNatClampNeg) d) (hd : d = i.toNatClampNeg) (hj : j.toInt = i.toInt + 1) (hi : 0 ≤ i.toInt) : u = tFixs t j.toNatClampNeg := by
  have c1 := z_clamp hi
  have c2 := z_clamp (x := j) (by omega)
  rw [show j.toNatClampNeg = i.toNatClampNeg + 1 by omega, h, hd]
  rfl
theorem tr_upd {f : Nat → Int32} {x : Nat} {b : Int32} (h : x < 60) : tr60 (upd f x b) = upd (tr60 f) x b := funext fun i => by
  by_cases q : i = x
  · subst q
    show (if i < 60 then upd f i b i else 0) = upd (tr60 f) i b i
    rw [if_pos h, pk_us, pk_us]
  · show (if i < 60 then upd f x b i else 0) = upd (tr60 f) x b i
    rw [pk_un q, pk_un q]
    rfl
theorem tB_X {z : ZS} : ∀ {d : Nat}, d < 4 → tB (trX z) d = bX ((xD z d).1 1) ((xD z d).2.2.1 0) ∧ tD (trX z) d = (xD z d).1 1
  | 0, _ => ⟨bX_tr (fun i h => if_pos h), rfl⟩
  | 1, _ => ⟨bX_tr (fun i h => if_pos h), rfl⟩
  | 2, _ => ⟨bX_tr (fun i h => if_pos h), rfl⟩
  | 3, _ => ⟨bX_tr (fun i h => if_pos h), rfl⟩
  | _ + 4, h => absurd h (by omega)
theorem lx_eq {f v : Int32} {x : Int} (h : f.toInt = -1 → v.toInt = x) : lx f v = lx f (Int32.ofInt x) := by
  unfold lx
  by_cases q : f.toInt = -1
  · rw [if_pos q, if_pos q, ← h q, Int32.ofInt_toInt]
  · rw [if_neg q, if_neg q]
theorem settle_fix {z : ZS} {d : Nat} {f u y n v : Int32} (hd : d < 4) (hv : z.1 2 = v) (h : f.toInt = pF (bX ((xD z d).1 1) ((xD z d).2.2.1 0)) ((xD z d).1 1).toInt) (hl : f.toInt = -1 → u.toInt = lU (pA (bX ((xD z d).1 1) ((xD z d).2.2.1 0)) ((xD z d).1 1).toInt).2 v.toInt ∧ y.toInt = lY (pA (bX ((xD z d).1 1) ((xD z d).2.2.1 0)) ((xD z d).1 1).toInt).2 v.toInt 0 ∧ n.toInt = lY (pA (bX ((xD z d).1 1) ((xD z d).2.2.1 0)) ((xD z d).1 1).toInt).2 v.toInt 1) : (((((trX z).1.set (16 + d) f).set (20 + 3 * d) (lx f u)).set (21 + 3 * d) (lx f y)).set (22 + 3 * d) (lx f n), (trX z).2) = tFix (trX z) d := by
  obtain ⟨q1, q2⟩ := tB_X (z := z) hd
  have q3 : tO (trX z) = v.toInt := by rw [← hv]; rfl
  have ef : Int32.ofInt (pF (bX ((xD z d).1 1) ((xD z d).2.2.1 0)) ((xD z d).1 1).toInt) = f := by rw [← h, Int32.ofInt_toInt]
  have q4 : tA (trX z) d = (pA (bX ((xD z d).1 1) ((xD z d).2.2.1 0)) ((xD z d).1 1).toInt).2 := by
    show (pA (tB (trX z) d) (tD (trX z) d).toInt).2 = _
    rw [q1, q2]
  unfold tFix
  rw [q4, q1, q2, q3, ef, lx_eq (fun q => (hl q).1), lx_eq (fun q => (hl q).2.1), lx_eq (fun q => (hl q).2.2)]
def tFault (t : TT) (d : Int32) : Int32 := if 0 ≤ d.toInt ∧ d.toInt < 4 then tF t d.toNatClampNeg else -2
theorem tFault_bad {t : TT} {d : Int32} (h : ¬ (0 ≤ d.toInt ∧ d.toInt < 4)) : (-2 : Int32) = tFault t d := (if_neg h).symm
theorem tFault_ok {t : TT} {d r : Int32} {n : Nat} (h : 0 ≤ d.toInt ∧ d.toInt < 4) (hn : n = d.toNatClampNeg) (hr : tF t n = r) : r = tFault t d := by
  subst hn hr
  exact (if_pos h).symm
def tType (t : TT) (d b : Int32) : Int32 × TT := if (0 ≤ d.toInt ∧ d.toInt < 4) ∧ (0 ≤ b.toInt ∧ b.toInt ≤ 255) then (if 60 ≤ (tD t d.toNatClampNeg).toInt then (-4, t) else (tD t d.toNatClampNeg + 1, tFix (t.1.set (4 + d.toNatClampNeg) (tD t d.toNatClampNeg + 1), t.2.1, t.2.2.set d.toNatClampNeg (upd (t.2.2.getD d.toNatClampNeg (fun _ => 0)) (tD t d.toNatClampNeg).toNatClampNeg b)) d.toNatClampNeg)) else (-2, t)
theorem tType_bad {t : TT} {d b : Int32} (h : ¬ ((0 ≤ d.toInt ∧ d.toInt < 4) ∧ (0 ≤ b.toInt ∧ b.toInt ≤ 255))) : ((-2 : Int32), t) = tType t d b := (if_neg h).symm
theorem tType_full {t t2 : TT} {d b x : Int32} {n : Nat} (h : (0 ≤ d.toInt ∧ d.toInt < 4) ∧ (0 ≤ b.toInt ∧ b.toInt ≤ 255)) (hn : n = d.toNatClampNeg) (hx : tD t n = x) (h2 : 60 ≤ x.toInt) (ht : t2 = t) : ((-4 : Int32), t2) = tType t d b := by
  subst hn hx ht
  exact ((if_pos h).trans (if_pos h2)).symm
theorem tType_ok {t t2 : TT} {d b x y : Int32} {n : Nat} (h : (0 ≤ d.toInt ∧ d.toInt < 4) ∧ (0 ≤ b.toInt ∧ b.toInt ≤ 255)) (hn : n = d.toNatClampNeg) (hx : tD t n = x) (h2 : ¬ 60 ≤ x.toInt) (hy : y = x + 1) (ht : t2 = tFix (t.1.set (4 + n) (x + 1), t.2.1, t.2.2.set n (upd (t.2.2.getD n (fun _ => 0)) x.toNatClampNeg b)) n) : (y, t2) = tType t d b := by
  subst hn hx hy ht
  exact ((if_pos h).trans (if_neg h2)).symm
def tWipe (t : TT) (d : Int32) : Int32 × TT := if (0 ≤ d.toInt ∧ d.toInt < 4) then (tD t d.toNatClampNeg, tFix (t.1.set (4 + d.toNatClampNeg) 0, t.2) d.toNatClampNeg) else (-2, t)
theorem tWipe_bad {t : TT} {d : Int32} (h : ¬ (0 ≤ d.toInt ∧ d.toInt < 4)) : ((-2 : Int32), t) = tWipe t d := (if_neg h).symm
theorem tWipe_ok {t t2 : TT} {d x : Int32} {n : Nat} (h : (0 ≤ d.toInt ∧ d.toInt < 4)) (hn : n = d.toNatClampNeg) (hx : tD t n = x) (ht : t2 = tFix (t.1.set (4 + n) 0, t.2) n) : (x, t2) = tWipe t d := by
  subst hn hx ht
  exact (if_pos h).symm
def tOther (t : TT) (v : Int32) : Int32 × TT := if 0 ≤ v.toInt ∧ v.toInt ≤ 24 then (t.1.getD 2 0, tFixs (t.1.set 2 v, t.2) 4) else (-2, t)
theorem tOther_bad {t : TT} {v : Int32} (h : ¬ (0 ≤ v.toInt ∧ v.toInt ≤ 24)) : ((-2 : Int32), t) = tOther t v := (if_neg h).symm
theorem tOther_ok {t t2 : TT} {v x : Int32} (h : 0 ≤ v.toInt ∧ v.toInt ≤ 24) (hx : x = t.1.getD 2 0) (ht : t2 = tFixs (t.1.set 2 v, t.2) 4) : (x, t2) = tOther t v := by
  subst hx ht
  exact (if_pos h).symm
def tLimit (t : TT) (v : Int32) : Int32 × TT := if 1 ≤ v.toInt ∧ v.toInt ≤ 1000 then (t.1.getD 3 0, (t.1.set 3 v, t.2)) else (-2, t)
theorem tLimit_bad {t : TT} {v : Int32} (h : ¬ (1 ≤ v.toInt ∧ v.toInt ≤ 1000)) : ((-2 : Int32), t) = tLimit t v := (if_neg h).symm
theorem tLimit_ok {t t2 : TT} {v x : Int32} (h : 1 ≤ v.toInt ∧ v.toInt ≤ 1000) (hx : x = t.1.getD 3 0) (ht : t2 = (t.1.set 3 v, t.2)) : (x, t2) = tLimit t v := by
  subst hx ht
  exact (if_pos h).symm
def tPass (t : TT) (n : Int32) : Int32 × TT := if (1 ≤ n.toInt ∧ n.toInt ≤ 100) ∧ (t.1.getD 0 0).toInt + n.toInt ≤ 399 then (t.1.getD 0 0 + n, (t.1.set 0 (t.1.getD 0 0 + n), t.2)) else (-2, t)
theorem tPass_bad {t : TT} {n x : Int32} (hx : x = t.1.getD 0 0) (h : ¬ ((1 ≤ n.toInt ∧ n.toInt ≤ 100) ∧ x.toInt + n.toInt ≤ 399)) : ((-2 : Int32), t) = tPass t n := by
  subst hx
  exact (if_neg h).symm
theorem tPass_ok {t t2 : TT} {n x y : Int32} (hx : x = t.1.getD 0 0) (h : (1 ≤ n.toInt ∧ n.toInt ≤ 100) ∧ x.toInt + n.toInt ≤ 399) (hy : y = x + n) (ht : t2 = (t.1.set 0 y, t.2)) : (y, t2) = tPass t n := by
  subst hx hy ht
  exact (if_pos h).symm
def tAsOf (t : TT) (v : Int32) : Int32 × TT := if v.toInt = -1 ∨ (0 ≤ v.toInt ∧ v.toInt ≤ (t.1.getD 0 0).toInt) then (t.1.getD 1 0, (t.1.set 1 v, t.2)) else (-2, t)
theorem tAsOf_bad {t : TT} {v x : Int32} (hx : x = t.1.getD 0 0) (h : ¬ (v.toInt = -1 ∨ (0 ≤ v.toInt ∧ v.toInt ≤ x.toInt))) : ((-2 : Int32), t) = tAsOf t v := by
  subst hx
  exact (if_neg h).symm
theorem tAsOf_ok {t t2 : TT} {v x y : Int32} (hx : x = t.1.getD 0 0) (h : v.toInt = -1 ∨ (0 ≤ v.toInt ∧ v.toInt ≤ x.toInt)) (hy : y = t.1.getD 1 0) (ht : t2 = (t.1.set 1 v, t.2)) : (y, t2) = tAsOf t v := by
  subst hx hy ht
  exact (if_pos h).symm
def tGroup (t : TT) (p g : Int32) : Int32 × TT := if (0 ≤ p.toInt ∧ p.toInt < 24) ∧ (0 ≤ g.toInt ∧ g.toInt < 4) then (t.2.1 p.toNatClampNeg, (t.1, upd t.2.1 p.toNatClampNeg g, t.2.2)) else (-2, t)
theorem tGroup_bad {t : TT} {p g : Int32} (h : ¬ ((0 ≤ p.toInt ∧ p.toInt < 24) ∧ (0 ≤ g.toInt ∧ g.toInt < 4))) : ((-2 : Int32), t) = tGroup t p g := (if_neg h).symm
theorem tGroup_ok {t t2 : TT} {p g x : Int32} {f : Nat → Int32} (h : (0 ≤ p.toInt ∧ p.toInt < 24) ∧ (0 ≤ g.toInt ∧ g.toInt < 4)) (hx : x = t.2.1 p.toNatClampNeg) (hf : f = upd t.2.1 p.toNatClampNeg g) (ht : t2 = (t.1, f, t.2.2)) : (x, t2) = tGroup t p g := by
  subst hx hf ht
  exact (if_pos h).symm
def tSheet (t : TT) (s ty n : Int32) : Int32 × TT := if (0 ≤ s.toInt ∧ s.toInt < 4) ∧ (0 ≤ ty.toInt ∧ ty.toInt < 3) ∧ n.toInt ≤ 60 then (if 0 ≤ n.toInt then (n, ((t.1.set (8 + 2 * s.toNatClampNeg) ty).set (9 + 2 * s.toNatClampNeg) n, t.2.1, t.2.2.set (5 + s.toNatClampNeg) (fun _ => 0))) else (-15, t)) else (-2, t)
theorem tSheet_bad {t : TT} {s ty n : Int32} (h : ¬ ((0 ≤ s.toInt ∧ s.toInt < 4) ∧ (0 ≤ ty.toInt ∧ ty.toInt < 3) ∧ n.toInt ≤ 60)) : ((-2 : Int32), t) = tSheet t s ty n := (if_neg h).symm
theorem tSheet_neg {t t2 : TT} {s ty n r : Int32} (h : (0 ≤ s.toInt ∧ s.toInt < 4) ∧ (0 ≤ ty.toInt ∧ ty.toInt < 3) ∧ n.toInt ≤ 60) (h2 : ¬ 0 ≤ n.toInt) (hr : r = -15) (ht : t2 = t) : (r, t2) = tSheet t s ty n := by
  subst hr ht
  exact ((if_pos h).trans (if_neg h2)).symm
theorem tSheet_ok {t t2 : TT} {s ty n : Int32} {m : Nat} (h : (0 ≤ s.toInt ∧ s.toInt < 4) ∧ (0 ≤ ty.toInt ∧ ty.toInt < 3) ∧ n.toInt ≤ 60) (h2 : 0 ≤ n.toInt) (hm : m = s.toNatClampNeg) (ht : t2 = ((t.1.set (8 + 2 * m) ty).set (9 + 2 * m) n, t.2.1, t.2.2.set (5 + m) (fun _ => 0))) : (n, t2) = tSheet t s ty n := by
  subst hm ht
  exact ((if_pos h).trans (if_pos h2)).symm
def tLose (t : TT) (s : Int32) : Int32 × TT := if (0 ≤ s.toInt ∧ s.toInt < 4) then (if (tK t s.toNatClampNeg).toInt = -1 then (-11, t) else (tN t s.toNatClampNeg, ((t.1.set (8 + 2 * s.toNatClampNeg) (-1)).set (9 + 2 * s.toNatClampNeg) 0, t.2))) else (-2, t)
theorem tLose_bad {t : TT} {s : Int32} (h : ¬ (0 ≤ s.toInt ∧ s.toInt < 4)) : ((-2 : Int32), t) = tLose t s := (if_neg h).symm
theorem tLose_lost {t t2 : TT} {s k r : Int32} {m : Nat} (h : (0 ≤ s.toInt ∧ s.toInt < 4)) (hm : m = s.toNatClampNeg) (hk : tK t m = k) (h2 : k.toInt = -1) (hr : r = -11) (ht : t2 = t) : (r, t2) = tLose t s := by
  subst hm hk hr ht
  exact ((if_pos h).trans (if_pos h2)).symm
theorem tLose_ok {t t2 : TT} {s k y : Int32} {m : Nat} (h : (0 ≤ s.toInt ∧ s.toInt < 4)) (hm : m = s.toNatClampNeg) (hk : tK t m = k) (h2 : ¬ k.toInt = -1) (hy : tN t m = y) (ht : t2 = ((t.1.set (8 + 2 * m) (-1)).set (9 + 2 * m) 0, t.2)) : (y, t2) = tLose t s := by
  subst hm hk hy ht
  exact ((if_pos h).trans (if_neg h2)).symm
def tPut (t : TT) (s ty i : Int32) : Int32 := if (0 ≤ s.toInt ∧ s.toInt < 4) ∧ (0 ≤ ty.toInt ∧ ty.toInt < 3) then (if (tK t s.toNatClampNeg).toInt = -1 then -11 else if (tK t s.toNatClampNeg).toInt = ty.toInt then (if 0 ≤ i.toInt ∧ i.toInt < (tN t s.toNatClampNeg).toInt then 1 else -12) else -13) else -2
theorem tPut_bad {t : TT} {s ty i : Int32} (h : ¬ ((0 ≤ s.toInt ∧ s.toInt < 4) ∧ (0 ≤ ty.toInt ∧ ty.toInt < 3))) : (-2 : Int32) = tPut t s ty i := (if_neg h).symm
theorem tPut_1 {t : TT} {s ty i k r : Int32} {m : Nat} (h : (0 ≤ s.toInt ∧ s.toInt < 4) ∧ (0 ≤ ty.toInt ∧ ty.toInt < 3)) (hm : m = s.toNatClampNeg) (hk : tK t m = k) (h1 : k.toInt = -1) (hr : r = -11) : r = tPut t s ty i := by
  subst hm hk hr
  exact ((if_pos h).trans (if_pos h1)).symm
theorem tPut_3 {t : TT} {s ty i k r : Int32} {m : Nat} (h : (0 ≤ s.toInt ∧ s.toInt < 4) ∧ (0 ≤ ty.toInt ∧ ty.toInt < 3)) (hm : m = s.toNatClampNeg) (hk : tK t m = k) (h1 : ¬ k.toInt = -1) (h2 : ¬ k.toInt = ty.toInt) (hr : r = -13) : r = tPut t s ty i := by
  subst hm hk hr
  exact ((if_pos h).trans ((if_neg h1).trans (if_neg h2))).symm
theorem tPut_2 {t : TT} {s ty i k n r : Int32} {m : Nat} (h : (0 ≤ s.toInt ∧ s.toInt < 4) ∧ (0 ≤ ty.toInt ∧ ty.toInt < 3)) (hm : m = s.toNatClampNeg) (hk : tK t m = k) (h1 : ¬ k.toInt = -1) (h2 : k.toInt = ty.toInt) (hz : tN t m = n) (h3 : ¬ (0 ≤ i.toInt ∧ i.toInt < n.toInt)) (hr : r = -12) : r = tPut t s ty i := by
  subst hm hk hz hr
  exact ((if_pos h).trans ((if_neg h1).trans ((if_pos h2).trans (if_neg h3)))).symm
theorem tPut_0 {t : TT} {s ty i k n r : Int32} {m : Nat} (h : (0 ≤ s.toInt ∧ s.toInt < 4) ∧ (0 ≤ ty.toInt ∧ ty.toInt < 3)) (hm : m = s.toNatClampNeg) (hk : tK t m = k) (h1 : ¬ k.toInt = -1) (h2 : k.toInt = ty.toInt) (hz : tN t m = n) (h3 : 0 ≤ i.toInt ∧ i.toInt < n.toInt) (hr : r = 1) : r = tPut t s ty i := by
  subst hm hk hz hr
  exact ((if_pos h).trans ((if_neg h1).trans ((if_pos h2).trans (if_pos h3)))).symm
def tCopy (t : TT) (s i s2 j n : Int32) : Int32 := if (0 ≤ s.toInt ∧ s.toInt < 4) ∧ (0 ≤ s2.toInt ∧ s2.toInt < 4) then (if (tK t s.toNatClampNeg).toInt = -1 ∨ (tK t s2.toNatClampNeg).toInt = -1 then -11 else if (tK t s.toNatClampNeg).toInt = (tK t s2.toNatClampNeg).toInt then (if 0 ≤ i.toInt ∧ 0 ≤ j.toInt ∧ 0 ≤ n.toInt ∧ i.toInt + n.toInt ≤ (tN t s.toNatClampNeg).toInt ∧ j.toInt + n.toInt ≤ (tN t s2.toNatClampNeg).toInt then 1 else -12) else -14) else -2
theorem tCopy_bad {t : TT} {s i s2 j n : Int32} (h : ¬ ((0 ≤ s.toInt ∧ s.toInt < 4) ∧ (0 ≤ s2.toInt ∧ s2.toInt < 4))) : (-2 : Int32) = tCopy t s i s2 j n := (if_neg h).symm
theorem tCopy_1 {t : TT} {s i s2 j n k k2 r : Int32} {m m2 : Nat} (h : (0 ≤ s.toInt ∧ s.toInt < 4) ∧ (0 ≤ s2.toInt ∧ s2.toInt < 4)) (hm : m = s.toNatClampNeg) (hm2 : m2 = s2.toNatClampNeg) (hk : tK t m = k) (hk2 : tK t m2 = k2) (h1 : k.toInt = -1 ∨ k2.toInt = -1) (hr : r = -11) : r = tCopy t s i s2 j n := by
  subst hm hm2 hk hk2 hr
  exact ((if_pos h).trans (if_pos h1)).symm
theorem tCopy_4 {t : TT} {s i s2 j n k k2 r : Int32} {m m2 : Nat} (h : (0 ≤ s.toInt ∧ s.toInt < 4) ∧ (0 ≤ s2.toInt ∧ s2.toInt < 4)) (hm : m = s.toNatClampNeg) (hm2 : m2 = s2.toNatClampNeg) (hk : tK t m = k) (hk2 : tK t m2 = k2) (h1 : ¬ (k.toInt = -1 ∨ k2.toInt = -1)) (h2 : ¬ k.toInt = k2.toInt) (hr : r = -14) : r = tCopy t s i s2 j n := by
  subst hm hm2 hk hk2 hr
  exact ((if_pos h).trans ((if_neg h1).trans (if_neg h2))).symm
theorem tCopy_2 {t : TT} {s i s2 j n k k2 a b r : Int32} {m m2 : Nat} (h : (0 ≤ s.toInt ∧ s.toInt < 4) ∧ (0 ≤ s2.toInt ∧ s2.toInt < 4)) (hm : m = s.toNatClampNeg) (hm2 : m2 = s2.toNatClampNeg) (hk : tK t m = k) (hk2 : tK t m2 = k2) (ha : tN t m = a) (hb : tN t m2 = b) (h1 : ¬ (k.toInt = -1 ∨ k2.toInt = -1)) (h2 : k.toInt = k2.toInt) (h3 : ¬ (0 ≤ i.toInt ∧ 0 ≤ j.toInt ∧ 0 ≤ n.toInt ∧ i.toInt + n.toInt ≤ a.toInt ∧ j.toInt + n.toInt ≤ b.toInt)) (hr : r = -12) : r = tCopy t s i s2 j n := by
  subst hm hm2 hk hk2 ha hb hr
  exact ((if_pos h).trans ((if_neg h1).trans ((if_pos h2).trans (if_neg h3)))).symm
theorem tCopy_0 {t : TT} {s i s2 j n k k2 a b r : Int32} {m m2 : Nat} (h : (0 ≤ s.toInt ∧ s.toInt < 4) ∧ (0 ≤ s2.toInt ∧ s2.toInt < 4)) (hm : m = s.toNatClampNeg) (hm2 : m2 = s2.toNatClampNeg) (hk : tK t m = k) (hk2 : tK t m2 = k2) (ha : tN t m = a) (hb : tN t m2 = b) (h1 : ¬ (k.toInt = -1 ∨ k2.toInt = -1)) (h2 : k.toInt = k2.toInt) (h3 : 0 ≤ i.toInt ∧ 0 ≤ j.toInt ∧ 0 ≤ n.toInt ∧ i.toInt + n.toInt ≤ a.toInt ∧ j.toInt + n.toInt ≤ b.toInt) (hr : r = 1) : r = tCopy t s i s2 j n := by
  subst hm hm2 hk hk2 ha hb hr
  exact ((if_pos h).trans ((if_neg h1).trans ((if_pos h2).trans (if_pos h3)))).symm
/-! the reference's side -/
def kM (z : ZS) (d : Nat) : Int32 := if (z.2.2.1 36 d).toInt = 0 then -1 else z.2.2.1 37 d
def nM (z : ZS) (d : Nat) : Int32 := if (z.2.2.1 36 d).toInt = 0 then 0 else z.2.2.1 38 d
def TXr (tx : Nat → Int32) (d : Nat) : Nat → Int32 := tr60 (fun i => tx (60 * d + i))
theorem TXr_at {tx : Nat → Int32} {d i : Nat} (h : i < 60) : TXr tx d i = tx (60 * d + i) := if_pos h
def bRf (ty tx : Nat → Int32) (d : Nat) : Int → Int := bX (ty d) (TXr tx d)
/-- what reading a design comes to: its fault, its shares -/
def FR (ty tx : Nat → Int32) (d : Nat) : Int × Ac := pA (bX (ty d) (TXr tx d)) (ty d).toInt
def eF (F : Int × Ac) : Int32 := Int32.ofInt F.1
def eU (F : Int × Ac) (ot : Int) : Int32 := lx (eF F) (Int32.ofInt (lU F.2 ot))
def eY (F : Int × Ac) (ot : Int) (j : Nat) : Int32 := lx (eF F) (Int32.ofInt (lY F.2 ot j))
/-- the items of a sheet -/
def ITr (it : Nat → Int32) (s : Nat) : Nat → Int32 := cR (fun i => it (60 * s + i))
def trC (a b c e : Int32) (ty tx kd sz gr : Nat → Int32) (na : Int32) (bk it : Nat → Int32) : TT := ([a, b, c, e, ty 0, ty 1, ty 2, ty 3, kd 0, sz 0, kd 1, sz 1, kd 2, sz 2, kd 3, sz 3, eF (FR ty tx 0), eF (FR ty tx 1), eF (FR ty tx 2), eF (FR ty tx 3), eU (FR ty tx 0) c.toInt, eY (FR ty tx 0) c.toInt 0, eY (FR ty tx 0) c.toInt 1, eU (FR ty tx 1) c.toInt, eY (FR ty tx 1) c.toInt 0, eY (FR ty tx 1) c.toInt 1, eU (FR ty tx 2) c.toInt, eY (FR ty tx 2) c.toInt 0, eY (FR ty tx 2) c.toInt 1, eU (FR ty tx 3) c.toInt, eY (FR ty tx 3) c.toInt 0, eY (FR ty tx 3) c.toInt 1, na], gr, [TXr tx 0, TXr tx 1, TXr tx 2, TXr tx 3, bk, ITr it 0, ITr it 1, ITr it 2, ITr it 3])
def trM (z : ZS) : TT := trC (z.1 19) (z.1 20) (z.1 11) (z.1 35) (z.2.2.1 2) (z.2.2.1 3) (kM z) (nM z) (z.2.2.1 21) (z.1 22) (z.2.2.1 27) (z.2.2.1 39)
theorem TXr_same {f : Nat → Int32} {d k x : Nat} {b : Int32} (hk : k ≠ d) (hx : x < 60) : TXr (upd f (60 * d + x) b) k = TXr f k := funext fun i => by
  show (if i < 60 then upd f (60 * d + x) b (60 * k + i) else 0) = (if i < 60 then f (60 * k + i) else 0)
  by_cases q : i < 60
  · rw [if_pos q, if_pos q, pk_un (by omega)]
  · rw [if_neg q, if_neg q]
theorem TXr_upd {f : Nat → Int32} {d x : Nat} {b : Int32} (hx : x < 60) : TXr (upd f (60 * d + x) b) d = upd (TXr f d) x b := funext fun i => by
  by_cases q : i = x
  · subst q
    show (if i < 60 then upd f (60 * d + i) b (60 * d + i) else 0) = upd (TXr f d) i b i
    rw [if_pos hx, pk_us, pk_us]
  · show (if i < 60 then upd f (60 * d + x) b (60 * d + i) else 0) = upd (TXr f d) x b i
    rw [pk_un q, pk_un (by omega)]
    rfl
theorem FR_same {ty tx : Nat → Int32} {d k x : Nat} {y b : Int32} (hk : k ≠ d) (hx : x < 60) : FR (upd ty d y) (upd tx (60 * d + x) b) k = FR ty tx k := by
  unfold FR
  rw [TXr_same hk hx, pk_un hk]
theorem FR_same2 {ty tx : Nat → Int32} {d k : Nat} {y : Int32} (hk : k ≠ d) : FR (upd ty d y) tx k = FR ty tx k := by
  unfold FR
  rw [pk_un hk]
theorem FR_upd {ty tx : Nat → Int32} {d x : Nat} {y b : Int32} (hx : x < 60) : FR (upd ty d y) (upd tx (60 * d + x) b) d = pA (bX y (upd (TXr tx d) x b)) y.toInt := by
  unfold FR
  rw [TXr_upd hx, pk_us]
theorem FR_upd2 {ty tx : Nat → Int32} {d : Nat} {y : Int32} : FR (upd ty d y) tx d = pA (bX y (TXr tx d)) y.toInt := by
  unfold FR
  rw [pk_us]
def T3 (f : Nat → Int32) : Prop := ∀ d : Nat, d < 4 → 0 ≤ (f d).toInt
theorem T3_upd {f f2 : Nat → Int32} {d v : Int32} (h : T3 f) (e : f2 = upd f d.toNatClampNeg v) (hv : 0 ≤ v.toInt) : T3 f2 := fun k hk => by
  by_cases q : k = d.toNatClampNeg
  · rw [e, q, pk_us]; exact hv
  · rw [e, pk_un q]; exact h k hk
theorem trM_Dg {z : ZS} : ∀ {d : Nat}, d < 4 → tD (trM z) d = z.2.2.1 2 d
  | 0, _ => rfl
  | 1, _ => rfl
  | 2, _ => rfl
  | 3, _ => rfl
  | _ + 4, h => absurd h (by omega)
theorem trM_Kg {z : ZS} : ∀ {d : Nat}, d < 4 → tK (trM z) d = kM z d ∧ tN (trM z) d = nM z d
  | 0, _ => ⟨rfl, rfl⟩
  | 1, _ => ⟨rfl, rfl⟩
  | 2, _ => ⟨rfl, rfl⟩
  | 3, _ => ⟨rfl, rfl⟩
  | _ + 4, h => absurd h (by omega)
theorem trM_Fg {z : ZS} : ∀ {d : Nat}, d < 4 → tF (trM z) d = eF (FR (z.2.2.1 2) (z.2.2.1 3) d)
  | 0, _ => rfl
  | 1, _ => rfl
  | 2, _ => rfl
  | 3, _ => rfl
  | _ + 4, h => absurd h (by omega)
theorem trM_Lg {z : ZS} : ∀ {d : Nat}, d < 4 → (trM z).1.getD (20 + 3 * d) 0 = eU (FR (z.2.2.1 2) (z.2.2.1 3) d) (z.1 11).toInt ∧ (trM z).1.getD (21 + 3 * d) 0 = eY (FR (z.2.2.1 2) (z.2.2.1 3) d) (z.1 11).toInt 0 ∧ (trM z).1.getD (22 + 3 * d) 0 = eY (FR (z.2.2.1 2) (z.2.2.1 3) d) (z.1 11).toInt 1
  | 0, _ => ⟨rfl, rfl, rfl⟩
  | 1, _ => ⟨rfl, rfl, rfl⟩
  | 2, _ => ⟨rfl, rfl, rfl⟩
  | 3, _ => ⟨rfl, rfl, rfl⟩
  | _ + 4, h => absurd h (by omega)
def tFx (t : TT) (n : Nat) (F : Int × Ac) : TT := ((((t.1.set (16 + n) (eF F)).set (20 + 3 * n) (eU F (tO t))).set (21 + 3 * n) (eY F (tO t) 0)).set (22 + 3 * n) (eY F (tO t) 1), t.2)
theorem tFx_eq {t : TT} {n : Nat} {F : Int × Ac} (h : F = pA (tB t n) (tD t n).toInt) : tFx t n F = tFix t n := by
  subst h
  rfl
theorem trC_ty {a b c e y : Int32} {ty tx kd sz gr bk it : Nat → Int32} {na : Int32} {v : Int32} {x : Nat} (hx : x < 60) : ∀ {d : Nat}, d < 4 → trC a b c e (upd ty d y) (upd tx (60 * d + x) v) kd sz gr na bk it = tFix ((trC a b c e ty tx kd sz gr na bk it).1.set (4 + d) y, (trC a b c e ty tx kd sz gr na bk it).2.1, (trC a b c e ty tx kd sz gr na bk it).2.2.set d (upd ((trC a b c e ty tx kd sz gr na bk it).2.2.getD d (fun _ => 0)) x v)) d
  | 0, _ => by
    unfold trC
    rw [FR_same (k := 1) (d := 0) (by decide) hx, FR_same (k := 2) (d := 0) (by decide) hx, FR_same (k := 3) (d := 0) (by decide) hx, FR_upd hx, TXr_same (k := 1) (d := 0) (by decide) hx, TXr_same (k := 2) (d := 0) (by decide) hx, TXr_same (k := 3) (d := 0) (by decide) hx, TXr_upd hx]
    exact tFx_eq (t := ((trC a b c e ty tx kd sz gr na bk it).1.set (4 + 0) y, (trC a b c e ty tx kd sz gr na bk it).2.1, (trC a b c e ty tx kd sz gr na bk it).2.2.set 0 (upd ((trC a b c e ty tx kd sz gr na bk it).2.2.getD 0 (fun _ => 0)) x v))) (n := 0) (F := pA (bX y (upd (TXr tx 0) x v)) y.toInt) rfl
  | 1, _ => by
    unfold trC
    rw [FR_same (k := 0) (d := 1) (by decide) hx, FR_same (k := 2) (d := 1) (by decide) hx, FR_same (k := 3) (d := 1) (by decide) hx, FR_upd hx, TXr_same (k := 0) (d := 1) (by decide) hx, TXr_same (k := 2) (d := 1) (by decide) hx, TXr_same (k := 3) (d := 1) (by decide) hx, TXr_upd hx]
    exact tFx_eq (t := ((trC a b c e ty tx kd sz gr na bk it).1.set (4 + 1) y, (trC a b c e ty tx kd sz gr na bk it).2.1, (trC a b c e ty tx kd sz gr na bk it).2.2.set 1 (upd ((trC a b c e ty tx kd sz gr na bk it).2.2.getD 1 (fun _ => 0)) x v))) (n := 1) (F := pA (bX y (upd (TXr tx 1) x v)) y.toInt) rfl
  | 2, _ => by
    unfold trC
    rw [FR_same (k := 0) (d := 2) (by decide) hx, FR_same (k := 1) (d := 2) (by decide) hx, FR_same (k := 3) (d := 2) (by decide) hx, FR_upd hx, TXr_same (k := 0) (d := 2) (by decide) hx, TXr_same (k := 1) (d := 2) (by decide) hx, TXr_same (k := 3) (d := 2) (by decide) hx, TXr_upd hx]
    exact tFx_eq (t := ((trC a b c e ty tx kd sz gr na bk it).1.set (4 + 2) y, (trC a b c e ty tx kd sz gr na bk it).2.1, (trC a b c e ty tx kd sz gr na bk it).2.2.set 2 (upd ((trC a b c e ty tx kd sz gr na bk it).2.2.getD 2 (fun _ => 0)) x v))) (n := 2) (F := pA (bX y (upd (TXr tx 2) x v)) y.toInt) rfl
  | 3, _ => by
    unfold trC
    rw [FR_same (k := 0) (d := 3) (by decide) hx, FR_same (k := 1) (d := 3) (by decide) hx, FR_same (k := 2) (d := 3) (by decide) hx, FR_upd hx, TXr_same (k := 0) (d := 3) (by decide) hx, TXr_same (k := 1) (d := 3) (by decide) hx, TXr_same (k := 2) (d := 3) (by decide) hx, TXr_upd hx]
    exact tFx_eq (t := ((trC a b c e ty tx kd sz gr na bk it).1.set (4 + 3) y, (trC a b c e ty tx kd sz gr na bk it).2.1, (trC a b c e ty tx kd sz gr na bk it).2.2.set 3 (upd ((trC a b c e ty tx kd sz gr na bk it).2.2.getD 3 (fun _ => 0)) x v))) (n := 3) (F := pA (bX y (upd (TXr tx 3) x v)) y.toInt) rfl
  | _ + 4, h => absurd h (by omega)
theorem trC_wi {a b c e y : Int32} {ty tx kd sz gr bk it : Nat → Int32} {na : Int32} : ∀ {d : Nat}, d < 4 → trC a b c e (upd ty d y) tx kd sz gr na bk it = tFix ((trC a b c e ty tx kd sz gr na bk it).1.set (4 + d) y, (trC a b c e ty tx kd sz gr na bk it).2) d
  | 0, _ => by
    unfold trC
    rw [FR_same2 (k := 1) (d := 0) (by decide), FR_same2 (k := 2) (d := 0) (by decide), FR_same2 (k := 3) (d := 0) (by decide), FR_upd2]
    exact tFx_eq (t := ((trC a b c e ty tx kd sz gr na bk it).1.set (4 + 0) y, (trC a b c e ty tx kd sz gr na bk it).2)) (n := 0) (F := pA (bX y (TXr tx 0)) y.toInt) rfl
  | 1, _ => by
    unfold trC
    rw [FR_same2 (k := 0) (d := 1) (by decide), FR_same2 (k := 2) (d := 1) (by decide), FR_same2 (k := 3) (d := 1) (by decide), FR_upd2]
    exact tFx_eq (t := ((trC a b c e ty tx kd sz gr na bk it).1.set (4 + 1) y, (trC a b c e ty tx kd sz gr na bk it).2)) (n := 1) (F := pA (bX y (TXr tx 1)) y.toInt) rfl
  | 2, _ => by
    unfold trC
    rw [FR_same2 (k := 0) (d := 2) (by decide), FR_same2 (k := 1) (d := 2) (by decide), FR_same2 (k := 3) (d := 2) (by decide), FR_upd2]
    exact tFx_eq (t := ((trC a b c e ty tx kd sz gr na bk it).1.set (4 + 2) y, (trC a b c e ty tx kd sz gr na bk it).2)) (n := 2) (F := pA (bX y (TXr tx 2)) y.toInt) rfl
  | 3, _ => by
    unfold trC
    rw [FR_same2 (k := 0) (d := 3) (by decide), FR_same2 (k := 1) (d := 3) (by decide), FR_same2 (k := 2) (d := 3) (by decide), FR_upd2]
    exact tFx_eq (t := ((trC a b c e ty tx kd sz gr na bk it).1.set (4 + 3) y, (trC a b c e ty tx kd sz gr na bk it).2)) (n := 3) (F := pA (bX y (TXr tx 3)) y.toInt) rfl
  | _ + 4, h => absurd h (by omega)
theorem trM_ty {z : ZS} {y b : Int32} {g : Nat → Int32} {x : Nat} (hx : x < 60) {d : Nat} (hd : d < 4) {j : Nat} (hj : j = 60 * d + x) : trM (sA (sA (sA z 2 (upd (z.2.2.1 2) d y)) 3 (upd (z.2.2.1 3) j b)) 4 g) = tFix ((trM z).1.set (4 + d) y, (trM z).2.1, (trM z).2.2.set d (upd ((trM z).2.2.getD d (fun _ => 0)) x b)) d := by
  subst hj
  exact trC_ty hx hd
theorem trM_wi {z : ZS} {y : Int32} {g : Nat → Int32} {d : Nat} (hd : d < 4) : trM (sA (sA z 2 (upd (z.2.2.1 2) d y)) 4 g) = tFix ((trM z).1.set (4 + d) y, (trM z).2) d := trC_wi hd
theorem tFix_x {t : TT} {n : Nat} {F : Int × Ac} (h : F = pA (tB t n) (tD t n).toInt) : tFix t n = tFx t n F := (tFx_eq h).symm
theorem trC_ot {a b c e v : Int32} {ty tx kd sz gr bk it : Nat → Int32} {na : Int32} : trC a b v e ty tx kd sz gr na bk it = tFixs ((trC a b c e ty tx kd sz gr na bk it).1.set 2 v, (trC a b c e ty tx kd sz gr na bk it).2) 4 := by
  show _ = tFix (tFix (tFix (tFix (((trC a b c e ty tx kd sz gr na bk it).1.set 2 v, (trC a b c e ty tx kd sz gr na bk it).2) : TT) 0) 1) 2) 3
  rw [tFix_x (t := (((trC a b c e ty tx kd sz gr na bk it).1.set 2 v, (trC a b c e ty tx kd sz gr na bk it).2) : TT)) (n := 0) (F := FR ty tx 0) rfl, tFix_x (t := (tFx (((trC a b c e ty tx kd sz gr na bk it).1.set 2 v, (trC a b c e ty tx kd sz gr na bk it).2) : TT) 0 (FR ty tx 0))) (n := 1) (F := FR ty tx 1) rfl, tFix_x (t := (tFx (tFx (((trC a b c e ty tx kd sz gr na bk it).1.set 2 v, (trC a b c e ty tx kd sz gr na bk it).2) : TT) 0 (FR ty tx 0)) 1 (FR ty tx 1))) (n := 2) (F := FR ty tx 2) rfl, tFix_x (t := (tFx (tFx (tFx (((trC a b c e ty tx kd sz gr na bk it).1.set 2 v, (trC a b c e ty tx kd sz gr na bk it).2) : TT) 0 (FR ty tx 0)) 1 (FR ty tx 1)) 2 (FR ty tx 2))) (n := 3) (F := FR ty tx 3) rfl]
  rfl
theorem trM_ot {z : ZS} {v : Int32} : trM (sI z 11 v) = tFixs ((trM z).1.set 2 v, (trM z).2) 4 := trC_ot
theorem kM_in {z : ZS} {d : Nat} (h : ¬ (z.2.2.1 36 d).toInt = 0) : kM z d = z.2.2.1 37 d ∧ nM z d = z.2.2.1 38 d := ⟨if_neg h, if_neg h⟩
theorem kM_out {z : ZS} {d : Nat} (h : (z.2.2.1 36 d).toInt = 0) : kM z d = -1 ∧ nM z d = 0 := ⟨if_pos h, if_pos h⟩
theorem trC_k {a b c e v w : Int32} {ty tx kd sz gr kd2 sz2 bk it : Nat → Int32} {na : Int32} : ∀ {d : Nat}, d < 4 → (∀ i : Nat, i < 4 → i ≠ d → kd2 i = kd i ∧ sz2 i = sz i) → kd2 d = v → sz2 d = w → trC a b c e ty tx kd2 sz2 gr na bk it = (((trC a b c e ty tx kd sz gr na bk it).1.set (8 + 2 * d) v).set (9 + 2 * d) w, (trC a b c e ty tx kd sz gr na bk it).2)
  | 0, _, h, hk, hn => by
    unfold trC
    rw [hk, hn, (h 1 (by decide) (by decide)).1, (h 1 (by decide) (by decide)).2, (h 2 (by decide) (by decide)).1, (h 2 (by decide) (by decide)).2, (h 3 (by decide) (by decide)).1, (h 3 (by decide) (by decide)).2]
    rfl
  | 1, _, h, hk, hn => by
    unfold trC
    rw [hk, hn, (h 0 (by decide) (by decide)).1, (h 0 (by decide) (by decide)).2, (h 2 (by decide) (by decide)).1, (h 2 (by decide) (by decide)).2, (h 3 (by decide) (by decide)).1, (h 3 (by decide) (by decide)).2]
    rfl
  | 2, _, h, hk, hn => by
    unfold trC
    rw [hk, hn, (h 0 (by decide) (by decide)).1, (h 0 (by decide) (by decide)).2, (h 1 (by decide) (by decide)).1, (h 1 (by decide) (by decide)).2, (h 3 (by decide) (by decide)).1, (h 3 (by decide) (by decide)).2]
    rfl
  | 3, _, h, hk, hn => by
    unfold trC
    rw [hk, hn, (h 0 (by decide) (by decide)).1, (h 0 (by decide) (by decide)).2, (h 1 (by decide) (by decide)).1, (h 1 (by decide) (by decide)).2, (h 2 (by decide) (by decide)).1, (h 2 (by decide) (by decide)).2]
    rfl
  | _ + 4, h, _, _, _ => absurd h (by omega)
theorem trC_it {a b c e : Int32} {ty tx kd sz gr bk it it2 : Nat → Int32} {na : Int32} {F : Nat → Int32} : ∀ {d : Nat}, d < 4 → (∀ i : Nat, i < 4 → i ≠ d → ITr it2 i = ITr it i) → ITr it2 d = F → trC a b c e ty tx kd sz gr na bk it2 = ((trC a b c e ty tx kd sz gr na bk it).1, (trC a b c e ty tx kd sz gr na bk it).2.1, (trC a b c e ty tx kd sz gr na bk it).2.2.set (5 + d) F)
  | 0, _, h, hF => by
    unfold trC
    rw [hF, h 1 (by decide) (by decide), h 2 (by decide) (by decide), h 3 (by decide) (by decide)]
    rfl
  | 1, _, h, hF => by
    unfold trC
    rw [hF, h 0 (by decide) (by decide), h 2 (by decide) (by decide), h 3 (by decide) (by decide)]
    rfl
  | 2, _, h, hF => by
    unfold trC
    rw [hF, h 0 (by decide) (by decide), h 1 (by decide) (by decide), h 3 (by decide) (by decide)]
    rfl
  | 3, _, h, hF => by
    unfold trC
    rw [hF, h 0 (by decide) (by decide), h 1 (by decide) (by decide), h 2 (by decide) (by decide)]
    rfl
  | _ + 4, h, _, _ => absurd h (by omega)
theorem trM_sh {z : ZS} {v a b : Int32} {f : Nat → Int32} {g : Int32} (hv : ¬ v.toInt = 0) {d : Nat} (hd : d < 4) (hi : ∀ i : Nat, i < 4 → i ≠ d → ITr f i = ITr (z.2.2.1 39) i) (h0 : ITr f d = fun _ => 0) : trM (sI (sA (sA (sA (sA z 36 (upd (z.2.2.1 36) d v)) 37 (upd (z.2.2.1 37) d a)) 38 (upd (z.2.2.1 38) d b)) 39 f) 41 g) = (((trM z).1.set (8 + 2 * d) a).set (9 + 2 * d) b, (trM z).2.1, (trM z).2.2.set (5 + d) (fun _ => 0)) := by
  refine (trC_it (it := z.2.2.1 39) hd hi h0).trans (congrArg (fun t : TT => (t.1, t.2.1, t.2.2.set (5 + d) (fun _ => (0 : Int32)))) (trC_k (kd := kM z) (sz := nM z) hd (fun i _ q => ?_) ?_ ?_))
  · refine ⟨?_, ?_⟩
    · show (if (upd (z.2.2.1 36) d v i).toInt = 0 then -1 else upd (z.2.2.1 37) d a i) = kM z i
      rw [pk_un q, pk_un q]
      rfl
    · show (if (upd (z.2.2.1 36) d v i).toInt = 0 then 0 else upd (z.2.2.1 38) d b i) = nM z i
      rw [pk_un q, pk_un q]
      rfl
  · show (if (upd (z.2.2.1 36) d v d).toInt = 0 then -1 else upd (z.2.2.1 37) d a d) = a
    rw [pk_us, pk_us]
    exact if_neg hv
  · show (if (upd (z.2.2.1 36) d v d).toInt = 0 then 0 else upd (z.2.2.1 38) d b d) = b
    rw [pk_us, pk_us]
    exact if_neg hv
theorem trM_lo {z : ZS} {v : Int32} {g : Int32} (hv : v.toInt = 0) {d : Nat} (hd : d < 4) : trM (sI (sA z 36 (upd (z.2.2.1 36) d v)) 41 g) = (((trM z).1.set (8 + 2 * d) (-1)).set (9 + 2 * d) 0, (trM z).2) := by
  refine trC_k (kd := kM z) (sz := nM z) hd (fun i _ q => ?_) ?_ ?_
  · refine ⟨?_, ?_⟩
    · show (if (upd (z.2.2.1 36) d v i).toInt = 0 then -1 else z.2.2.1 37 i) = kM z i
      rw [pk_un q]
      rfl
    · show (if (upd (z.2.2.1 36) d v i).toInt = 0 then 0 else z.2.2.1 38 i) = nM z i
      rw [pk_un q]
      rfl
  · show (if (upd (z.2.2.1 36) d v d).toInt = 0 then -1 else z.2.2.1 37 d) = -1
    rw [pk_us]
    exact if_pos hv
  · show (if (upd (z.2.2.1 36) d v d).toInt = 0 then 0 else z.2.2.1 38 d) = 0
    rw [pk_us]
    exact if_pos hv
theorem xsD_1 {z u : ZS} : ∀ {d : Nat}, d < 4 → (xsD z d u).1 (10 + 6 * d + 1) = u.1 1
  | 0, _ => rfl
  | 1, _ => rfl
  | 2, _ => rfl
  | 3, _ => rfl
  | _ + 4, h => absurd h (by omega)
theorem z_nar {x : Int32} (h : x = 0 ∨ x = 1) : narrow .boolean (.int x) = .int x := by
  rcases h with rfl | rfl <;> rfl
def tWrite (t : TT) (d s : Int32) : Int32 := if (0 ≤ d.toInt ∧ d.toInt < 4) ∧ (0 ≤ s.toInt ∧ s.toInt < 4) then (if (tK t s.toNatClampNeg).toInt = -1 then -11 else if (tF t d.toNatClampNeg).toInt = -1 then (if 24 < (tN t s.toNatClampNeg).toInt then 24 else tN t s.toNatClampNeg) else -3) else -2
theorem tWrite_bad {t : TT} {d s : Int32} (h : ¬ ((0 ≤ d.toInt ∧ d.toInt < 4) ∧ (0 ≤ s.toInt ∧ s.toInt < 4))) : (-2 : Int32) = tWrite t d s := (if_neg h).symm
theorem tWrite_1 {t : TT} {d s k r : Int32} {m : Nat} (h : (0 ≤ d.toInt ∧ d.toInt < 4) ∧ (0 ≤ s.toInt ∧ s.toInt < 4)) (hm : m = s.toNatClampNeg) (hk : tK t m = k) (h1 : k.toInt = -1) (hr : r = -11) : r = tWrite t d s := by
  subst hm hk hr
  exact ((if_pos h).trans (if_pos h1)).symm
theorem tWrite_3 {t : TT} {d s k f r : Int32} {m n : Nat} (h : (0 ≤ d.toInt ∧ d.toInt < 4) ∧ (0 ≤ s.toInt ∧ s.toInt < 4)) (hm : m = s.toNatClampNeg) (hn : n = d.toNatClampNeg) (hk : tK t m = k) (h1 : ¬ k.toInt = -1) (hf : tF t n = f) (h2 : ¬ f.toInt = -1) (hr : r = -3) : r = tWrite t d s := by
  subst hm hn hk hf hr
  exact ((if_pos h).trans ((if_neg h1).trans (if_neg h2))).symm
theorem tWrite_0 {t : TT} {d s k f a r : Int32} {m n : Nat} (h : (0 ≤ d.toInt ∧ d.toInt < 4) ∧ (0 ≤ s.toInt ∧ s.toInt < 4)) (hm : m = s.toNatClampNeg) (hn : n = d.toNatClampNeg) (hk : tK t m = k) (h1 : ¬ k.toInt = -1) (hf : tF t n = f) (h2 : f.toInt = -1) (ha : tN t m = a) (hr : (24 < a.toInt ∧ r.toInt = 24) ∨ (a.toInt ≤ 24 ∧ r.toInt = a.toInt)) : r = tWrite t d s := by
  subst hm hn hk hf ha
  refine Eq.trans ?_ ((if_pos h).trans ((if_neg h1).trans (if_pos h2))).symm
  rcases hr with ⟨q1, q2⟩ | ⟨q1, q2⟩
  · rw [if_pos q1]
    exact Int32.toInt_inj.mp (q2.trans (by decide))
  · rw [if_neg (by omega)]
    exact Int32.toInt_inj.mp q2
theorem z_min24e {x y : Int32} (e : x = if (24 : Int32) < y then 24 else y) : (24 < y.toInt ∧ x.toInt = 24) ∨ (y.toInt ≤ 24 ∧ x.toInt = y.toInt) := by
  have q : (24 : Int32).toInt = 24 := by decide
  by_cases c : (24 : Int32) < y
  · rw [if_pos c] at e
    rw [Int32.lt_iff_toInt_lt] at c
    rw [e]; omega
  · rw [if_neg c] at e
    rw [Int32.lt_iff_toInt_lt] at c
    rw [e]; omega
theorem xsD_lo {z u : ZS} {d i : Nat} (h : i < 10) : (xsD z d u).1 i = z.1 i := if_neg (fun q => by omega)
/-! a fraction in lowest terms: above, below -/
def frT (a b w : Int) : Int := (((if w = 0 then a.natAbs else b.natAbs) / Nat.gcd a.natAbs b.natAbs : Nat) : Int)
theorem fr_sc {c d a b a2 b2 w : Int} (hc : 0 < c) (hd : 0 < d) (h1 : c * a = d * a2) (h2 : c * b = d * b2) : frT a b w = frT a2 b2 w := by
  have e1 : c.natAbs * a.natAbs = d.natAbs * a2.natAbs := by rw [← Int.natAbs_mul, h1, Int.natAbs_mul]
  have e2 : c.natAbs * b.natAbs = d.natAbs * b2.natAbs := by rw [← Int.natAbs_mul, h2, Int.natAbs_mul]
  obtain ⟨p1, p2⟩ := frac_c (k := c.natAbs) (a := a.natAbs) (b := b.natAbs) (by omega)
  obtain ⟨q1, q2⟩ := frac_c (k := d.natAbs) (a := a2.natAbs) (b := b2.natAbs) (by omega)
  rw [e1, e2, q1] at p1
  rw [e1, e2, q2] at p2
  unfold frT
  by_cases q : w = 0
  · rw [if_pos q, if_pos q, p1]
  · rw [if_neg q, if_neg q, p2]
theorem fr_w {a b w v : Int} (h : (w = 0 ∧ v = 0) ∨ (¬ w = 0 ∧ ¬ v = 0)) : frT a b w = frT a b v := by
  unfold frT
  rcases h with ⟨h1, h2⟩ | ⟨h1, h2⟩
  · rw [if_pos h1, if_pos h2]
  · rw [if_neg h1, if_neg h2]
/-- a refusal, told as a long -/
def tl (v : Int32) : Int := ((-9223372036854775808 : Int64) - v.toInt64).toInt
abbrev tU (t : TT) (n : Nat) : Int := (t.1.getD (20 + 3 * n) 0).toInt
abbrev tY (t : TT) (n : Nat) : Int := (t.1.getD (21 + 3 * n) 0).toInt
abbrev tZ (t : TT) (n : Nat) : Int := (t.1.getD (22 + 3 * n) 0).toInt
/-- with no fault the unit is 1 to 576, and no more lots say yes than there are -/
def LB (t : TT) : Prop := ∀ n : Nat, n < 4 → (tF t n).toInt = -1 → (1 ≤ tU t n ∧ tU t n ≤ 576) ∧ (0 ≤ tY t n ∧ tY t n ≤ tU t n) ∧ (0 ≤ tZ t n ∧ tZ t n ≤ tU t n)
def tSy (t : TT) (n : Nat) (h w : Int) : Int := if (tF t n).toInt = -1 then frT (if h = 1 then tY t n else tZ t n) (tU t n) w else tl (-3)
def tSays (t : TT) (d h w : Int32) : Int := if (0 ≤ d.toInt ∧ d.toInt < 4) ∧ (0 ≤ h.toInt ∧ h.toInt < 2) ∧ (0 ≤ w.toInt ∧ w.toInt < 2) then tSy t d.toNatClampNeg h.toInt w.toInt else tl (-2)
theorem tSays_bad {t : TT} {d h w : Int32} (q : ¬ ((0 ≤ d.toInt ∧ d.toInt < 4) ∧ (0 ≤ h.toInt ∧ h.toInt < 2) ∧ (0 ≤ w.toInt ∧ w.toInt < 2))) : tl (-2) = tSays t d h w := (if_neg q).symm
theorem tSays_ok {t : TT} {d h w : Int32} {r : Int} {n : Nat} (q : (0 ≤ d.toInt ∧ d.toInt < 4) ∧ (0 ≤ h.toInt ∧ h.toInt < 2) ∧ (0 ≤ w.toInt ∧ w.toInt < 2)) (hn : n = d.toNatClampNeg) (hr : r = tSy t n h.toInt w.toInt) : r = tSays t d h w := by
  subst hn
  exact hr.trans (if_pos q).symm
theorem tSy_f {t : TT} {n : Nat} {h w : Int} {f : Int32} (hf : tF t n = f) (q : ¬ f.toInt = -1) : tl (-3) = tSy t n h w := by
  subst hf
  exact (if_neg q).symm
theorem tSy_ok {t : TT} {n : Nat} {h w : Int} {f : Int32} {a b : Int} (hf : tF t n = f) (q : f.toInt = -1) (ha : (if h = 1 then tY t n else tZ t n) = a) (hb : tU t n = b) : frT a b w = tSy t n h w := by
  subst hf ha hb
  exact (if_pos q).symm
def tUn (t : TT) (n : Nat) : Int := if (tF t n).toInt = -1 then tU t n else -3
def tUnit (t : TT) (d : Int32) : Int := if 0 ≤ d.toInt ∧ d.toInt < 4 then tUn t d.toNatClampNeg else -2
theorem tUnit_bad {t : TT} {d : Int32} (q : ¬ (0 ≤ d.toInt ∧ d.toInt < 4)) : -2 = tUnit t d := (if_neg q).symm
theorem tUnit_ok {t : TT} {d : Int32} {r : Int} {n : Nat} (q : 0 ≤ d.toInt ∧ d.toInt < 4) (hn : n = d.toNatClampNeg) (hr : r = tUn t n) : r = tUnit t d := by
  subst hn
  exact hr.trans (if_pos q).symm
theorem tUn_f {t : TT} {n : Nat} {f : Int32} (hf : tF t n = f) (q : ¬ f.toInt = -1) : -3 = tUn t n := by
  subst hf
  exact (if_neg q).symm
theorem tUn_ok {t : TT} {n : Nat} {f : Int32} {r : Int} (hf : tF t n = f) (q : f.toInt = -1) (hr : tU t n = r) : r = tUn t n := by
  subst hf hr
  exact (if_pos q).symm
/-! what one answer gives away -/
def gA (y u v : Int) : Int := if y = 1 then v else u - v
def tAw (t : TT) (n : Nat) (y w : Int) : Int := if (tF t n).toInt = -1 ∧ ¬ gA y (tU t n) (tZ t n) = 0 then frT (gA y (tU t n) (tY t n)) (gA y (tU t n) (tZ t n)) w else tl (-3)
def tAway (t : TT) (d y w : Int32) : Int := if (0 ≤ d.toInt ∧ d.toInt < 4) ∧ (0 ≤ y.toInt ∧ y.toInt < 2) ∧ (0 ≤ w.toInt ∧ w.toInt < 2) then tAw t d.toNatClampNeg y.toInt w.toInt else tl (-2)
theorem tAway_bad {t : TT} {d y w : Int32} (q : ¬ ((0 ≤ d.toInt ∧ d.toInt < 4) ∧ (0 ≤ y.toInt ∧ y.toInt < 2) ∧ (0 ≤ w.toInt ∧ w.toInt < 2))) : tl (-2) = tAway t d y w := (if_neg q).symm
theorem tAway_ok {t : TT} {d y w : Int32} {r : Int} {n : Nat} (q : (0 ≤ d.toInt ∧ d.toInt < 4) ∧ (0 ≤ y.toInt ∧ y.toInt < 2) ∧ (0 ≤ w.toInt ∧ w.toInt < 2)) (hn : n = d.toNatClampNeg) (hr : r = tAw t n y.toInt w.toInt) : r = tAway t d y w := by
  subst hn
  exact hr.trans (if_pos q).symm
theorem tAw_f {t : TT} {n : Nat} {y w : Int} {f : Int32} {v u : Int} (hf : tF t n = f) (hv : tZ t n = v) (hu : tU t n = u) (q : ¬ (f.toInt = -1 ∧ ¬ gA y u v = 0)) : tl (-3) = tAw t n y w := by
  subst hf hv hu
  exact (if_neg q).symm
theorem tAw_f2 {t : TT} {n : Nat} {y w : Int} {f : Int32} (hf : tF t n = f) (q : ¬ f.toInt = -1) : tl (-3) = tAw t n y w := by
  subst hf
  exact (if_neg (fun z => q z.1)).symm
theorem tAw_ok {t : TT} {n : Nat} {y w : Int} {f : Int32} {v u x : Int} (hf : tF t n = f) (hx : tY t n = x) (hv : tZ t n = v) (hu : tU t n = u) (q : f.toInt = -1 ∧ ¬ gA y u v = 0) : frT (gA y u x) (gA y u v) w = tAw t n y w := by
  subst hf hx hv hu
  exact (if_pos q).symm
/-! what a design gives away at most -/
def mxI (a b : Int) : Int := if b < a then a else b
def mnI (a b : Int) : Int := if b < a then b else a
def eX (u y v w : Int) : Int := if (u - mnI y v) * mnI y v ≤ mxI y v * (u - mxI y v) then frT (mxI y v) (mnI y v) w else frT (u - mnI y v) (u - mxI y v) w
abbrev opn (u y v : Int) : Prop := (0 < y ∧ 0 < v) ∧ (y < u ∧ v < u)
def tEx (t : TT) (n : Nat) (w : Int) : Int := if (tF t n).toInt = -1 ∧ opn (tU t n) (tY t n) (tZ t n) then eX (tU t n) (tY t n) (tZ t n) w else tl (-3)
def tExp (t : TT) (d w : Int32) : Int := if (0 ≤ d.toInt ∧ d.toInt < 4) ∧ (0 ≤ w.toInt ∧ w.toInt < 2) then tEx t d.toNatClampNeg w.toInt else tl (-2)
theorem tExp_bad {t : TT} {d w : Int32} (q : ¬ ((0 ≤ d.toInt ∧ d.toInt < 4) ∧ (0 ≤ w.toInt ∧ w.toInt < 2))) : tl (-2) = tExp t d w := (if_neg q).symm
theorem tExp_ok {t : TT} {d w : Int32} {r : Int} {n : Nat} (q : (0 ≤ d.toInt ∧ d.toInt < 4) ∧ (0 ≤ w.toInt ∧ w.toInt < 2)) (hn : n = d.toNatClampNeg) (hr : r = tEx t n w.toInt) : r = tExp t d w := by
  subst hn
  exact hr.trans (if_pos q).symm
theorem tEx_f {t : TT} {n : Nat} {w : Int} {f : Int32} {u y v : Int} (hf : tF t n = f) (hy : tY t n = y) (hv : tZ t n = v) (hu : tU t n = u) (q : ¬ (f.toInt = -1 ∧ opn u y v)) : tl (-3) = tEx t n w := by
  subst hf hy hv hu
  exact (if_neg q).symm
theorem tEx_f2 {t : TT} {n : Nat} {w : Int} {f : Int32} (hf : tF t n = f) (q : ¬ f.toInt = -1) : tl (-3) = tEx t n w := by
  subst hf
  exact (if_neg (fun z => q z.1)).symm
theorem tEx_ok {t : TT} {n : Nat} {w : Int} {f : Int32} {u y v : Int} (hf : tF t n = f) (hy : tY t n = y) (hv : tZ t n = v) (hu : tU t n = u) (q : f.toInt = -1 ∧ opn u y v) : eX u y v w = tEx t n w := by
  subst hf hy hv hu
  exact (if_pos q).symm
theorem eX_1 {u y v a b w : Int} (ha : a = mxI y v) (hb : b = mnI y v) (h : (u - b) * b ≤ a * (u - a)) : frT a b w = eX u y v w := by
  subst ha hb
  exact (if_pos h).symm
theorem eX_0 {u y v a b w : Int} (ha : a = mxI y v) (hb : b = mnI y v) (h : ¬ (u - b) * b ≤ a * (u - a)) : frT (u - b) (u - a) w = eX u y v w := by
  subst ha hb
  exact (if_neg h).symm
theorem mx_sc {c e y v y2 v2 : Int} (hc : 0 < c) (he : 0 < e) (h1 : c * y = e * y2) (h2 : c * v = e * v2) : c * mxI y v = e * mxI y2 v2 ∧ c * mnI y v = e * mnI y2 v2 := by
  unfold mxI mnI
  by_cases q : v < y
  · have q2 : v2 < y2 := Int.lt_of_mul_lt_mul_left (a := e) (by rw [← h1, ← h2]; exact Int.mul_lt_mul_of_pos_left q hc) (by omega)
    rw [if_pos q, if_pos q, if_pos q2, if_pos q2]
    exact ⟨h1, h2⟩
  · have q2 : ¬ v2 < y2 := fun z => q (Int.lt_of_mul_lt_mul_left (a := c) (by rw [h1, h2]; exact Int.mul_lt_mul_of_pos_left z he) (by omega))
    rw [if_neg q, if_neg q, if_neg q2, if_neg q2]
    exact ⟨h2, h1⟩
/-- the same comparison, whatever each pair is multiplied by -/
theorem cmp_sc {c e a b a2 b2 f g p q p2 q2 : Int} (hc : 0 < c * f) (he : 0 < e * g) (h1 : c * a = e * a2) (h2 : f * b = g * b2) (h3 : c * p = e * p2) (h4 : f * q = g * q2) : a * b ≤ p * q ↔ a2 * b2 ≤ p2 * q2 := by
  have k1 : (c * f) * (a * b) = (e * g) * (a2 * b2) := by
    rw [show (c * f) * (a * b) = (c * a) * (f * b) by ac_rfl, h1, h2]
    ac_rfl
  have k2 : (c * f) * (p * q) = (e * g) * (p2 * q2) := by
    rw [show (c * f) * (p * q) = (c * p) * (f * q) by ac_rfl, h3, h4]
    ac_rfl
  constructor
  · intro h
    have h5 := Int.mul_le_mul_of_nonneg_left h (Int.le_of_lt hc)
    rw [k1, k2] at h5
    exact Int.le_of_mul_le_mul_left h5 he
  · intro h
    have h5 := Int.mul_le_mul_of_nonneg_left h (Int.le_of_lt he)
    rw [← k1, ← k2] at h5
    exact Int.le_of_mul_le_mul_left h5 hc
theorem sub_sc {c e u y u2 y2 : Int} (h1 : c * u = e * u2) (h2 : c * y = e * y2) : c * (u - y) = e * (u2 - y2) := by
  rw [Int.mul_sub, Int.mul_sub, h1, h2]
theorem gA_sc {c e u y u2 y2 h : Int} (h1 : c * u = e * u2) (h2 : c * y = e * y2) : c * gA h u y = e * gA h u2 y2 := by
  unfold gA
  by_cases q : h = 1
  · rw [if_pos q, if_pos q]; exact h2
  · rw [if_neg q, if_neg q]; exact sub_sc h1 h2
theorem eX_sc {c e u y v u2 y2 v2 w : Int} (hc : 0 < c) (he : 0 < e) (hu : c * u = e * u2) (hy : c * y = e * y2) (hv : c * v = e * v2) : eX u y v w = eX u2 y2 v2 w := by
  obtain ⟨m1, m2⟩ := mx_sc hc he hy hv
  have k := cmp_sc (c := c) (e := e) (f := c) (g := e) (Int.mul_pos hc hc) (Int.mul_pos he he) (sub_sc hu m2) m2 m1 (sub_sc hu m1)
  unfold eX
  by_cases q : (u - mnI y v) * mnI y v ≤ mxI y v * (u - mxI y v)
  · rw [if_pos q, if_pos (k.mp q)]
    exact fr_sc hc he m1 m2
  · rw [if_neg q, if_neg (fun z => q (k.mpr z))]
    exact fr_sc hc he (sub_sc hu m2) (sub_sc hu m1)
theorem opn_sc {c e u y v u2 y2 v2 : Int} (hc : 0 < c) (he : 0 < e) (hu : c * u = e * u2) (hy : c * y = e * y2) (hv : c * v = e * v2) : opn u y v ↔ opn u2 y2 v2 := by
  have z1 : ∀ {a b a2 b2 : Int}, c * a = e * a2 → c * b = e * b2 → (a < b ↔ a2 < b2) := fun {a b a2 b2} p1 p2 => ⟨fun q => Int.lt_of_mul_lt_mul_left (a := e) (by rw [← p1, ← p2]; exact Int.mul_lt_mul_of_pos_left q hc) (by omega), fun q => Int.lt_of_mul_lt_mul_left (a := c) (by rw [p1, p2]; exact Int.mul_lt_mul_of_pos_left q he) (by omega)⟩
  have z0 : c * 0 = e * 0 := by rw [Int.mul_zero, Int.mul_zero]
  unfold opn
  rw [z1 z0 hy, z1 z0 hv, z1 hy hu, z1 hv hu]
/-- as the reference compares: each pair in lowest terms first -/
theorem frT_m {a b w : Int} (hb : 0 < b) (ha : 0 ≤ a) : ∃ g : Int, 0 < g ∧ g * frT a b 0 = a ∧ g * frT a b 1 = b := by
  refine ⟨(Nat.gcd a.natAbs b.natAbs : Int), ?_, ?_, ?_⟩
  · have := Nat.gcd_pos_of_pos_right a.natAbs (show 0 < b.natAbs by omega)
    omega
  · have h := Nat.mul_div_cancel' (Nat.gcd_dvd_left a.natAbs b.natAbs)
    show (Nat.gcd a.natAbs b.natAbs : Int) * ((a.natAbs / Nat.gcd a.natAbs b.natAbs : Nat) : Int) = a
    rw [← Int.natCast_mul, h]
    omega
  · have h := Nat.mul_div_cancel' (Nat.gcd_dvd_right a.natAbs b.natAbs)
    show (Nat.gcd a.natAbs b.natAbs : Int) * ((b.natAbs / Nat.gcd a.natAbs b.natAbs : Nat) : Int) = b
    rw [← Int.natCast_mul, h]
    omega
theorem ex_ref {u y v a b a2 b2 t1 b1 t2 b3 w : Int} (ho : opn u y v) (h1 : a = frT y v 0) (h2 : b = frT y v 1) (h3 : a2 = frT (u - y) (u - v) 0) (h4 : b2 = frT (u - y) (u - v) 1) (q1 : t1 = mxI a b) (q2 : b1 = mnI a b) (q3 : t2 = mxI a2 b2) (q4 : b3 = mnI a2 b2) : (t1 * b3 < t2 * b1 → frT t2 b3 w = eX u y v w) ∧ (¬ t1 * b3 < t2 * b1 → frT t1 b1 w = eX u y v w) := by
  obtain ⟨g, hg, k1, k2⟩ := frT_m (w := w) (a := y) (b := v) ho.1.2 (by have := ho.1.1; omega)
  obtain ⟨f, hf, k3, k4⟩ := frT_m (w := w) (a := u - y) (b := u - v) (by have := ho.2.2; omega) (by have := ho.2.1; omega)
  have e1 : (1 : Int) * y = g * a := by rw [h1, k1, Int.one_mul]
  have e2 : (1 : Int) * v = g * b := by rw [h2, k2, Int.one_mul]
  have e3 : (1 : Int) * (u - y) = f * a2 := by rw [h3, k3, Int.one_mul]
  have e4 : (1 : Int) * (u - v) = f * b2 := by rw [h4, k4, Int.one_mul]
  obtain ⟨m1, m2⟩ := mx_sc (by decide) hg e1 e2
  obtain ⟨m3, m4⟩ := mx_sc (by decide) hf e3 e4
  rw [← q1] at m1
  rw [← q2] at m2
  rw [← q3] at m3
  rw [← q4] at m4
  have n3 : mxI (u - y) (u - v) = u - mnI y v := by
    unfold mxI mnI
    by_cases q : v < y
    · rw [if_pos q, if_neg (by omega)]
    · rw [if_neg q]
      by_cases z : u - v < u - y
      · rw [if_pos z]
      · rw [if_neg z]; omega
  have n4 : mnI (u - y) (u - v) = u - mxI y v := by
    unfold mxI mnI
    by_cases q : v < y
    · rw [if_pos q, if_neg (by omega)]
    · rw [if_neg q]
      by_cases z : u - v < u - y
      · rw [if_pos z]
      · rw [if_neg z]; omega
  rw [n3] at m3
  rw [n4] at m4
  have k := cmp_sc (c := 1) (e := f) (f := 1) (g := g) (by decide) (Int.mul_pos hf hg) m3 m2 (p := u - mxI y v) (q := mxI y v) (p2 := b3) (q2 := t1) m4 m1
  rw [Int.mul_comm (u - mxI y v), Int.mul_comm b3] at k
  unfold eX
  constructor
  · intro z
    rw [if_neg (fun q => by have := k.mp q; omega)]
    exact (fr_sc (by decide) hf m3 m4).symm
  · intro z
    rw [if_pos (k.mpr (by omega))]
    exact (fr_sc (by decide) hg m1 m2).symm
theorem is_fr {x y a b : Int} (hx : 0 ≤ x) (hy : 0 < y) (hb : b = ((y.natAbs / Nat.gcd x.natAbs y.natAbs : Nat) : Int)) (ha : a = x.tdiv (if y < 0 then -(Nat.gcd x.natAbs y.natAbs : Int) else (Nat.gcd x.natAbs y.natAbs : Int))) : a = frT x y 0 ∧ b = frT x y 1 := by
  rw [if_neg (by omega)] at ha
  obtain ⟨m, hm⟩ : ∃ m : Nat, x = (m : Int) := ⟨x.natAbs, by omega⟩
  refine ⟨?_, hb⟩
  rw [ha, hm, Int.natAbs_natCast]
  show (m : Int).tdiv _ = (((m / Nat.gcd m y.natAbs : Nat)) : Int)
  rfl
/-- what a fraction is told as -/
theorem fr_told {a b r : Int64} {x y w : Int} (ha : a.toInt = frT x y 0) (hb : b.toInt = frT x y 1) (hr : (w = 0 → r = a) ∧ (¬ w = 0 → r = b)) : r.toInt = frT x y w := by
  by_cases q : w = 0
  · rw [hr.1 q, ha, q]
  · rw [hr.2 q, hb]
    exact fr_w (Or.inr ⟨by decide, q⟩)
theorem fr_div {x y g a b : Int} (hx : 0 ≤ x) (hy : 0 < y) (hg : g = (Nat.gcd x.natAbs y.natAbs : Int)) (ha : a = x.tdiv g) (hb : b = y.tdiv g) : a = frT x y 0 ∧ b = frT x y 1 := by
  obtain ⟨m, rfl⟩ : ∃ m : Nat, x = (m : Int) := ⟨x.natAbs, by omega⟩
  obtain ⟨n, rfl⟩ : ∃ n : Nat, y = (n : Int) := ⟨y.natAbs, by omega⟩
  rw [ha, hb, hg]
  exact ⟨rfl, rfl⟩
theorem gA_b {y u v : Int} (h : 0 ≤ v ∧ v ≤ u) : 0 ≤ gA y u v ∧ gA y u v ≤ u := by
  unfold gA
  split <;> omega
theorem mm_b {u y v : Int} (h : opn u y v) : 0 < mnI y v ∧ mnI y v ≤ mxI y v ∧ mxI y v < u := by
  obtain ⟨⟨h1, h2⟩, h3, h4⟩ := h
  unfold mnI mxI
  split <;> omega
theorem z_mxI {x a b : Int32} (e : x = if a < b then b else a) : x.toInt = mxI a.toInt b.toInt := by
  unfold mxI
  by_cases c : a < b
  · rw [if_pos c] at e
    rw [Int32.lt_iff_toInt_lt] at c
    rw [if_neg (by omega), e]
  · rw [if_neg c] at e
    rw [Int32.lt_iff_toInt_lt] at c
    rw [e]
    by_cases q : b.toInt < a.toInt
    · rw [if_pos q]
    · rw [if_neg q]; omega
theorem z_mnI {x a b : Int32} (e : x = if b < a then b else a) : x.toInt = mnI a.toInt b.toInt := by
  unfold mnI
  by_cases c : b < a
  · rw [if_pos c] at e
    rw [Int32.lt_iff_toInt_lt] at c
    rw [if_pos c, e]
  · rw [if_neg c] at e
    rw [Int32.lt_iff_toInt_lt] at c
    rw [if_neg c, e]
theorem lx_y {f v : Int32} (h : f.toInt = -1) : lx f v = v := if_pos h
theorem tL_X {z : ZS} {d : Nat} (hd : d < 4) (hf : (z.1 (10 + 6 * d + 2)).toInt = -1) : tU (trX z) d = (z.1 (10 + 6 * d + 5)).toInt ∧ tY (trX z) d = (z.1 (10 + 6 * d + 3)).toInt ∧ tZ (trX z) d = (z.1 (10 + 6 * d + 4)).toInt := by
  obtain ⟨h1, h2, h3⟩ := trX_Lg (z := z) hd
  exact ⟨congrArg Int32.toInt (h1.trans (lx_y hf)), congrArg Int32.toInt (h2.trans (lx_y hf)), congrArg Int32.toInt (h3.trans (lx_y hf))⟩
theorem tF_X {z : ZS} {d : Nat} (hd : d < 4) {x : Int} (hf : (z.1 (10 + 6 * d + 2)).toInt = x) : (tF (trX z) d).toInt = x := (congrArg Int32.toInt (trX_Fg hd)).trans hf
/-- kept out of omega's sight -/
def Hd (p : Prop) : Prop := p
theorem un_hd {p : Prop} (h : Hd p) : p := h
theorem gv_fr {x y a b X Y : Int} (h : 0 ≤ x → 0 < y → a = frT x y 0 ∧ b = frT x y 1) (hx : x = X) (hy : y = Y) (h1 : 0 ≤ X) (h2 : 0 < Y) : (a = frT X Y 0 ∧ b = frT X Y 1) ∧ ¬ Y = 0 := by
  subst hx hy
  exact ⟨h h1 h2, by omega⟩
/-! answers: how many, on which day each was taken back; the sheets' items, 0 and 1 taken as one -/
abbrev tNA (t : TT) : Int32 := t.1.getD 32 0
abbrev tBk (t : TT) : Nat → Int32 := t.2.2.getD 4 (fun _ => 0)
abbrev tIt (t : TT) (n : Nat) : Nat → Int32 := t.2.2.getD (5 + n) (fun _ => 0)
def tTell (t : TT) : Int32 × TT := if 120 ≤ (tNA t).toInt then (-4, t) else (tNA t, (t.1.set 32 (tNA t + 1), t.2.1, t.2.2.set 4 (upd (tBk t) (tNA t).toNatClampNeg (-1))))
theorem tTell_full {t t2 : TT} {n : Int32} (hn : tNA t = n) (h : 120 ≤ n.toInt) (ht : t2 = t) : ((-4 : Int32), t2) = tTell t := by
  subst hn ht
  exact (if_pos h).symm
theorem tTell_ok {t t2 : TT} {n r : Int32} (hn : tNA t = n) (h : ¬ 120 ≤ n.toInt) (hr : r = n) (ht : t2 = (t.1.set 32 (n + 1), t.2.1, t.2.2.set 4 (upd (tBk t) n.toNatClampNeg (-1)))) : (r, t2) = tTell t := by
  subst hn hr ht
  exact (if_neg h).symm
def tAns (t : TT) (p d y : Int32) : Int32 × TT := if (0 ≤ p.toInt ∧ p.toInt < 24) ∧ (0 ≤ d.toInt ∧ d.toInt < 4) ∧ (0 ≤ y.toInt ∧ y.toInt < 2) then (if (tF t d.toNatClampNeg).toInt = -1 then tTell t else (-3, t)) else (-2, t)
theorem tAns_bad {t t2 : TT} {p d y : Int32} (h : ¬ ((0 ≤ p.toInt ∧ p.toInt < 24) ∧ (0 ≤ d.toInt ∧ d.toInt < 4) ∧ (0 ≤ y.toInt ∧ y.toInt < 2))) (ht : t2 = t) : ((-2 : Int32), t2) = tAns t p d y := by
  subst ht
  exact (if_neg h).symm
theorem tAns_f {t t2 : TT} {p d y f : Int32} {n : Nat} (h : (0 ≤ p.toInt ∧ p.toInt < 24) ∧ (0 ≤ d.toInt ∧ d.toInt < 4) ∧ (0 ≤ y.toInt ∧ y.toInt < 2)) (hn : n = d.toNatClampNeg) (hf : tF t n = f) (h2 : ¬ f.toInt = -1) (ht : t2 = t) : ((-3 : Int32), t2) = tAns t p d y := by
  subst hn hf ht
  exact ((if_pos h).trans (if_neg h2)).symm
theorem tAns_ok {t : TT} {p d y f : Int32} {n : Nat} {T : Int32 × TT} (h : (0 ≤ p.toInt ∧ p.toInt < 24) ∧ (0 ≤ d.toInt ∧ d.toInt < 4) ∧ (0 ≤ y.toInt ∧ y.toInt < 2)) (hn : n = d.toNatClampNeg) (hf : tF t n = f) (h2 : f.toInt = -1) (hT : T = tTell t) : T = tAns t p d y := by
  subst hn hf hT
  exact ((if_pos h).trans (if_pos h2)).symm
def tBack (t : TT) (n : Int32) : Int32 × TT := if 0 ≤ n.toInt ∧ n.toInt < (tNA t).toInt then (if (tBk t n.toNatClampNeg).toInt = -1 then (1, (t.1, t.2.1, t.2.2.set 4 (upd (tBk t) n.toNatClampNeg (t.1.getD 0 0)))) else (-3, t)) else (-2, t)
theorem tBack_bad {t t2 : TT} {n x : Int32} (hx : tNA t = x) (h : ¬ (0 ≤ n.toInt ∧ n.toInt < x.toInt)) (ht : t2 = t) : ((-2 : Int32), t2) = tBack t n := by
  subst hx ht
  exact (if_neg h).symm
theorem tBack_no {t t2 : TT} {n x b : Int32} (hx : tNA t = x) (h : 0 ≤ n.toInt ∧ n.toInt < x.toInt) (hb : b = tBk t n.toNatClampNeg) (h2 : ¬ b.toInt = -1) (ht : t2 = t) : ((-3 : Int32), t2) = tBack t n := by
  subst hx hb ht
  exact ((if_pos h).trans (if_neg h2)).symm
theorem tBack_ok {t t2 : TT} {n x b : Int32} (hx : tNA t = x) (h : 0 ≤ n.toInt ∧ n.toInt < x.toInt) (hb : b = tBk t n.toNatClampNeg) (h2 : b.toInt = -1) (ht : t2 = (t.1, t.2.1, t.2.2.set 4 (upd (tBk t) n.toNatClampNeg (t.1.getD 0 0)))) : ((1 : Int32), t2) = tBack t n := by
  subst hx hb ht
  exact ((if_pos h).trans (if_pos h2)).symm
/-! reading a sheet: pairs of a person and a yes, until one is no such pair, or there is no room -/
abbrev okI (p y : Int32) : Prop := (0 ≤ p.toInt ∧ p.toInt < 24) ∧ y.toInt = 0
theorem cI_p {x : Int32} : (0 ≤ (cI x).toInt ∧ (cI x).toInt < 24) ↔ (0 ≤ x.toInt ∧ x.toInt < 24) := by
  unfold cI
  by_cases q : x = 1
  · rw [if_pos q, q]; decide
  · rw [if_neg q]
theorem cI_e {x : Int32} : (cI x).toInt = 0 ↔ (0 ≤ x.toInt ∧ x.toInt < 2) := by
  unfold cI
  by_cases q : x = 1
  · rw [if_pos q, q]; decide
  · rw [if_neg q]
    have h1 : ¬ x.toInt = 1 := fun z => q (Int32.toInt_inj.mp (z.trans (by decide)))
    omega
def rdL (s : Nat) : Nat → Nat → TT → Nat × TT
  | 0, i, t => (i, t)
  | f + 1, i, t => if okI (tIt t s (2 * i)) (tIt t s (2 * i + 1)) ∧ ¬ 120 ≤ (tNA t).toInt then rdL s f (i + 1) (tTell t).2 else (i, t)
theorem rdL_0 {s i : Nat} {t : TT} : rdL s 0 i t = (i, t) := by rw [rdL]
theorem rd_go {s f g i j : Nat} {t t2 : TT} {T : Nat × TT} {r : Int32} (hf : f = g + 1) (hr : rdL s f i t = T) (ho : okI (tIt t s (2 * i)) (tIt t s (2 * i + 1))) (hn : ¬ 120 ≤ (tNA t).toInt) (hj : j = i + 1) (ht : (r, t2) = tTell t) : rdL s g j t2 = T := by
  subst hf hj
  rw [rdL, if_pos ⟨ho, hn⟩, ← ht] at hr
  exact hr
theorem rd_no {s f i : Nat} {t : TT} {T : Nat × TT} (hr : rdL s f i t = T) (h : ¬ (okI (tIt t s (2 * i)) (tIt t s (2 * i + 1)) ∧ ¬ 120 ≤ (tNA t).toInt)) : T = (i, t) := by
  cases f with
  | zero => rw [rdL_0] at hr; exact hr.symm
  | succ g => rw [rdL, if_neg h] at hr; exact hr.symm
def tRead (t : TT) (s d : Int32) : Int32 × TT := if (0 ≤ s.toInt ∧ s.toInt < 4) ∧ (0 ≤ d.toInt ∧ d.toInt < 4) then (if (tK t s.toNatClampNeg).toInt = -1 then (-11, t) else if (tF t d.toNatClampNeg).toInt = -1 then (Int32.ofInt ((rdL s.toNatClampNeg ((tN t s.toNatClampNeg).toInt / 2).toNat 0 t).1 : Int), (rdL s.toNatClampNeg ((tN t s.toNatClampNeg).toInt / 2).toNat 0 t).2) else (-3, t)) else (-2, t)
theorem tRead_bad {t t2 : TT} {s d : Int32} (h : ¬ ((0 ≤ s.toInt ∧ s.toInt < 4) ∧ (0 ≤ d.toInt ∧ d.toInt < 4))) (ht : t2 = t) : ((-2 : Int32), t2) = tRead t s d := by
  subst ht
  exact (if_neg h).symm
theorem tRead_1 {t t2 : TT} {s d k r : Int32} {m : Nat} (h : (0 ≤ s.toInt ∧ s.toInt < 4) ∧ (0 ≤ d.toInt ∧ d.toInt < 4)) (hm : m = s.toNatClampNeg) (hk : tK t m = k) (h1 : k.toInt = -1) (hr : r = -11) (ht : t2 = t) : (r, t2) = tRead t s d := by
  subst hm hk hr ht
  exact ((if_pos h).trans (if_pos h1)).symm
theorem tRead_3 {t t2 : TT} {s d k f : Int32} {m n : Nat} (h : (0 ≤ s.toInt ∧ s.toInt < 4) ∧ (0 ≤ d.toInt ∧ d.toInt < 4)) (hm : m = s.toNatClampNeg) (hn : n = d.toNatClampNeg) (hk : tK t m = k) (h1 : ¬ k.toInt = -1) (hf : tF t n = f) (h2 : ¬ f.toInt = -1) (ht : t2 = t) : ((-3 : Int32), t2) = tRead t s d := by
  subst hm hn hk hf ht
  exact ((if_pos h).trans ((if_neg h1).trans (if_neg h2))).symm
theorem tRead_0 {t t2 : TT} {s d k f r : Int32} {m n p : Nat} {T : Nat × TT} (h : (0 ≤ s.toInt ∧ s.toInt < 4) ∧ (0 ≤ d.toInt ∧ d.toInt < 4)) (hm : m = s.toNatClampNeg) (hn : n = d.toNatClampNeg) (hk : tK t m = k) (h1 : ¬ k.toInt = -1) (hf : tF t n = f) (h2 : f.toInt = -1) (hp : p = ((tN t m).toInt / 2).toNat) (hT : rdL m p 0 t = T) (hT2 : T = (r.toNatClampNeg, t2)) (hr : 0 ≤ r.toInt) : (r, t2) = tRead t s d := by
  subst hm hn hk hf hp hT
  refine Eq.trans ?_ ((if_pos h).trans ((if_neg h1).trans (if_pos h2))).symm
  rw [hT2]
  exact Prod.ext (by show r = Int32.ofInt (r.toNatClampNeg : Int); rw [z_clamp hr, Int32.ofInt_toInt]) rfl
/-! items put, moved, written -/
def nar3 (k v : Int32) : Int32 := if k.toInt = 0 then v.toInt8.toInt32 else if k.toInt = 1 then v.toInt16.toInt32 else v
theorem nar3_0 {k v : Int32} (h : k.toInt = 0) : nar3 k v = v.toInt8.toInt32 := if_pos h
theorem nar3_1 {k v : Int32} (h0 : ¬ k.toInt = 0) (h : k.toInt = 1) : nar3 k v = v.toInt16.toInt32 := (if_neg h0).trans (if_pos h)
theorem nar3_2 {k v : Int32} (h0 : ¬ k.toInt = 0) (h : ¬ k.toInt = 1) : nar3 k v = v := (if_neg h0).trans (if_neg h)
theorem cI_nar {k v : Int32} (h : v = 0 ∨ v = 1) : cI (nar3 k v) = 0 := by
  unfold nar3
  rcases h with rfl | rfl <;> (split; decide; split <;> decide)
theorem cR_upd {f : Nat → Int32} {i : Nat} {x : Int32} (h : i < 60) : cR (upd f i x) = upd (cR f) i (cI x) := funext fun k => by
  by_cases q : k = i
  · subst q
    show (if k < 60 then cI (upd f k x k) else 0) = upd (cR f) k (cI x) k
    rw [if_pos h, pk_us, pk_us]
  · show (if k < 60 then cI (upd f i x k) else 0) = upd (cR f) i (cI x) k
    rw [pk_un q, pk_un q]
    rfl
theorem cR_cpy {f g : Nat → Int32} {sp dp n : Nat} (h1 : sp + n ≤ 60) (h2 : dp + n ≤ 60) : cR (va_cpy f g sp dp n) = va_cpy (cR f) (cR g) sp dp n := funext fun k => by
  show (if k < 60 then cI (if dp ≤ k ∧ k < dp + n then f (sp + (k - dp)) else g k) else 0) = (if dp ≤ k ∧ k < dp + n then (if sp + (k - dp) < 60 then cI (f (sp + (k - dp))) else 0) else (if k < 60 then cI (g k) else 0))
  by_cases q : dp ≤ k ∧ k < dp + n
  · rw [if_pos q, if_pos q, if_pos (by omega), if_pos (by omega)]
  · rw [if_neg q, if_neg q]
theorem cR_0 {f : Nat → Int32} (h : ∀ j : Nat, j < 60 → f j = 0) : cR f = fun _ => 0 := funext fun k => by
  show (if k < 60 then cI (f k) else 0) = 0
  by_cases q : k < 60
  · rw [if_pos q, h k q]; decide
  · rw [if_neg q]
def tSt (t : TT) (m : Nat) (f : Nat → Int32) : TT := (t.1, t.2.1, t.2.2.set (5 + m) f)
def tPut2 (t : TT) (s ty i v : Int32) : Int32 × TT := (tPut t s ty i, if tPut t s ty i = 1 then tSt t s.toNatClampNeg (upd (tIt t s.toNatClampNeg) i.toNatClampNeg (cI (nar3 (tK t s.toNatClampNeg) v))) else t)
theorem tPut2_no {t t2 : TT} {s ty i v r : Int32} (hr : r = tPut t s ty i) (h : ¬ r = 1) (ht : t2 = t) : (r, t2) = tPut2 t s ty i v := by
  unfold tPut2
  rw [← hr, if_neg h, ht]
theorem tPut2_ok {t t2 : TT} {s ty i v r : Int32} {m : Nat} (hr : r = tPut t s ty i) (h : r = 1) (hm : m = s.toNatClampNeg) (ht : t2 = tSt t m (upd (tIt t m) i.toNatClampNeg (cI (nar3 (tK t m) v)))) : (r, t2) = tPut2 t s ty i v := by
  unfold tPut2
  rw [← hr, if_pos h, ht, hm]
def tCopy2 (t : TT) (s i s2 j n : Int32) : Int32 × TT := (tCopy t s i s2 j n, if tCopy t s i s2 j n = 1 then tSt t s2.toNatClampNeg (va_cpy (tIt t s.toNatClampNeg) (tIt t s2.toNatClampNeg) i.toNatClampNeg j.toNatClampNeg n.toNatClampNeg) else t)
theorem tCopy2_no {t t2 : TT} {s i s2 j n r : Int32} (hr : r = tCopy t s i s2 j n) (h : ¬ r = 1) (ht : t2 = t) : (r, t2) = tCopy2 t s i s2 j n := by
  unfold tCopy2
  rw [← hr, if_neg h, ht]
theorem tCopy2_ok {t t2 : TT} {s i s2 j n r : Int32} {m m2 : Nat} (hr : r = tCopy t s i s2 j n) (h : r = 1) (hm : m = s.toNatClampNeg) (hm2 : m2 = s2.toNatClampNeg) (ht : t2 = tSt t m2 (va_cpy (tIt t m) (tIt t m2) i.toNatClampNeg j.toNatClampNeg n.toNatClampNeg)) : (r, t2) = tCopy2 t s i s2 j n := by
  unfold tCopy2
  rw [← hr, if_pos h, ht, hm, hm2]
def wrR (f : Nat → Int32) (n : Int) : Nat → Int32 := fun i => if (i : Int) < n then 0 else f i
theorem wrR_0 {f : Nat → Int32} {n : Int} (h : n ≤ 0) : wrR f n = f := funext fun i => if_neg (by omega)
theorem wrR_s {f : Nat → Int32} {i x : Int32} {n : Int} (h : 0 ≤ i.toInt) (hn : n = i.toInt + 1) (hx : x = 0) : upd (wrR f i.toInt) i.toNatClampNeg x = wrR f n := funext fun k => by
  have c := z_clamp h
  by_cases q : k = i.toNatClampNeg
  · rw [q, pk_us, hx]
    exact (if_pos (by omega)).symm
  · rw [pk_un q]
    show (if (k : Int) < i.toInt then 0 else f k) = (if (k : Int) < n then 0 else f k)
    by_cases q2 : (k : Int) < i.toInt
    · rw [if_pos q2, if_pos (by omega)]
    · rw [if_neg q2, if_neg (by omega)]
theorem set_self {α : Type} {d : α} : ∀ {l : List α} {k : Nat}, l.set k (l.getD k d) = l
  | [], _ => rfl
  | a :: l, 0 => rfl
  | a :: l, k + 1 => congrArg (fun x => a :: x) (set_self (l := l) (k := k))
theorem tSt_self {t : TT} {m : Nat} {f : Nat → Int32} (h : f = tIt t m) : tSt t m f = t := by
  subst h
  exact congrArg (fun x => (t.1, t.2.1, x)) set_self
theorem set_get {α : Type} {d a : α} : ∀ {l : List α} {k : Nat}, k < l.length → (l.set k a).getD k d = a
  | [], _, h => absurd h (by simp)
  | _ :: _, 0, _ => rfl
  | _ :: l, k + 1, h => set_get (l := l) (k := k) (by simpa using h)
theorem tSt_st {t : TT} {m : Nat} {f g : Nat → Int32} : tSt (tSt t m f) m g = tSt t m g := by
  show (t.1, t.2.1, (t.2.2.set (5 + m) f).set (5 + m) g) = (t.1, t.2.1, t.2.2.set (5 + m) g)
  rw [List.set_set]
def tWrite2 (t : TT) (d s : Int32) : Int32 × TT := (tWrite t d s, if 0 ≤ (tWrite t d s).toInt then tSt t s.toNatClampNeg (wrR (tIt t s.toNatClampNeg) (tWrite t d s).toInt) else t)
theorem tWrite2_no {t t2 : TT} {d s r : Int32} (hr : r = tWrite t d s) (h : ¬ 0 ≤ r.toInt) (ht : t2 = t) : (r, t2) = tWrite2 t d s := by
  unfold tWrite2
  rw [← hr, if_neg h, ht]
theorem tWrite2_ok {t t2 : TT} {d s r : Int32} {m : Nat} (hr : r = tWrite t d s) (h : 0 ≤ r.toInt) (hm : m = s.toNatClampNeg) (ht : t2 = tSt t m (wrR (tIt t m) r.toInt)) : (r, t2) = tWrite2 t d s := by
  unfold tWrite2
  rw [← hr, if_pos h, ht, hm]
theorem wr_go {t t1 t2 : TT} {m : Nat} {i k v s : Int32} {n : Int} (hm4 : m < 4) (hm : m = s.toNatClampNeg) (h2 : t2 = tSt t1 m (upd (tIt t1 m) i.toNatClampNeg (cI (nar3 k v)))) (h1 : t1 = tSt t s.toNatClampNeg (wrR (tIt t s.toNatClampNeg) i.toInt)) (h0 : 0 ≤ i.toInt) (hn : n = i.toInt + 1) (hx : cI (nar3 k v) = 0) (hl : t.2.2.length = 9 := by rfl) : t2 = tSt t s.toNatClampNeg (wrR (tIt t s.toNatClampNeg) n) := by
  subst hm
  have e : tIt t1 s.toNatClampNeg = wrR (tIt t s.toNatClampNeg) i.toInt := by
    rw [h1]
    exact set_get (by rw [hl]; omega)
  rw [h2, e, wrR_s h0 hn hx, h1, tSt_st]
theorem rdA_go {t t2 : TT} {x y d r : Int32} {s i n : Nat} (h : (r, t2) = tAns t x d y) (hd : 0 ≤ d.toInt ∧ d.toInt < 4) (hn : n = d.toNatClampNeg) (hf : (tF t n).toInt = -1) (hr : 0 ≤ r.toInt) (h0 : tIt t s (2 * i) = cI x) (h1 : tIt t s (2 * i + 1) = cI y) : okI (tIt t s (2 * i)) (tIt t s (2 * i + 1)) ∧ ¬ 120 ≤ (tNA t).toInt ∧ (r, t2) = tTell t := by
  subst hn
  have z2 : ((-2 : Int32)).toInt = -2 := by decide
  have z4 : ((-4 : Int32)).toInt = -4 := by decide
  by_cases q : (0 ≤ x.toInt ∧ x.toInt < 24) ∧ (0 ≤ y.toInt ∧ y.toInt < 2)
  · have e : tAns t x d y = tTell t := (if_pos ⟨q.1, hd, q.2⟩).trans (if_pos hf)
    rw [e] at h
    refine ⟨⟨by rw [h0]; exact cI_p.mpr q.1, by rw [h1]; exact cI_e.mpr q.2⟩, fun q2 => ?_, h⟩
    have e2 : tTell t = (-4, t) := if_pos q2
    rw [e2] at h
    have e3 := congrArg Prod.fst h
    have e4 : r = -4 := e3
    rw [e4] at hr
    omega
  · have e : tAns t x d y = (-2, t) := if_neg (fun z => q ⟨z.1, z.2.2⟩)
    rw [e] at h
    have e4 : r = -2 := congrArg Prod.fst h
    rw [e4] at hr
    omega
theorem rdA_no {t t2 : TT} {x y d r : Int32} {s i n : Nat} (h : (r, t2) = tAns t x d y) (hd : 0 ≤ d.toInt ∧ d.toInt < 4) (hn : n = d.toNatClampNeg) (hf : (tF t n).toInt = -1) (hr : r.toInt < 0) (hna : 0 ≤ (tNA t).toInt) (h0 : tIt t s (2 * i) = cI x) (h1 : tIt t s (2 * i + 1) = cI y) : t2 = t ∧ ¬ (okI (tIt t s (2 * i)) (tIt t s (2 * i + 1)) ∧ ¬ 120 ≤ (tNA t).toInt) := by
  subst hn
  by_cases q : (0 ≤ x.toInt ∧ x.toInt < 24) ∧ (0 ≤ y.toInt ∧ y.toInt < 2)
  · have e : tAns t x d y = tTell t := (if_pos ⟨q.1, hd, q.2⟩).trans (if_pos hf)
    rw [e] at h
    by_cases q2 : 120 ≤ (tNA t).toInt
    · have e2 : tTell t = (-4, t) := if_pos q2
      rw [e2] at h
      exact ⟨congrArg Prod.snd h, fun z => z.2 q2⟩
    · have e2 : r = tNA t := (congrArg Prod.fst h).trans (congrArg Prod.fst (if_neg q2 : tTell t = _))
      rw [e2] at hr
      omega
  · have e : tAns t x d y = (-2, t) := if_neg (fun z => q ⟨z.1, z.2.2⟩)
    rw [e] at h
    refine ⟨congrArg Prod.snd h, fun z => q ⟨?_, ?_⟩⟩
    · have := z.1.1
      rw [h0] at this
      exact cI_p.mp this
    · have := z.1.2
      rw [h1] at this
      exact cI_e.mp this
/-! the reference's items -/
theorem trM_Ig {z : ZS} : ∀ {d : Nat}, d < 4 → tIt (trM z) d = ITr (z.2.2.1 39) d
  | 0, _ => rfl
  | 1, _ => rfl
  | 2, _ => rfl
  | 3, _ => rfl
  | _ + 4, h => absurd h (by omega)
theorem ITr_at {it : Nat → Int32} {s i : Nat} (h : i < 60) : ITr it s i = cI (it (60 * s + i)) := if_pos h
theorem ITr_same {it : Nat → Int32} {d k i : Nat} {x : Int32} (hk : k ≠ d) (hi : i < 60) : ITr (upd it (60 * d + i) x) k = ITr it k := funext fun j => by
  show (if j < 60 then cI (upd it (60 * d + i) x (60 * k + j)) else 0) = (if j < 60 then cI (it (60 * k + j)) else 0)
  by_cases q : j < 60
  · rw [if_pos q, if_pos q, pk_un (by omega)]
  · rw [if_neg q, if_neg q]
theorem ITr_upd {it : Nat → Int32} {d i : Nat} {x : Int32} (hi : i < 60) : ITr (upd it (60 * d + i) x) d = upd (ITr it d) i (cI x) := funext fun j => by
  by_cases q : j = i
  · subst q
    show (if j < 60 then cI (upd it (60 * d + j) x (60 * d + j)) else 0) = upd (ITr it d) j (cI x) j
    rw [if_pos hi, pk_us, pk_us]
  · show (if j < 60 then cI (upd it (60 * d + i) x (60 * d + j)) else 0) = upd (ITr it d) i (cI x) j
    rw [pk_un q, pk_un (by omega)]
    rfl
theorem trM_39 {z y : ZS} {f : Nat → Int32} {d i : Nat} {x : Int32} (hy : trM y = trC (z.1 19) (z.1 20) (z.1 11) (z.1 35) (z.2.2.1 2) (z.2.2.1 3) (kM z) (nM z) (z.2.2.1 21) (z.1 22) (z.2.2.1 27) f) (hd : d < 4) (hi : i < 60) (hf : f = upd (z.2.2.1 39) (60 * d + i) x) : trM y = tSt (trM z) d (upd (tIt (trM z) d) i (cI x)) := by
  rw [hy, trM_Ig hd]
  exact trC_it hd (fun k _ q => by rw [hf]; exact ITr_same q hi) (by rw [hf]; exact ITr_upd hi)
/-- a sheet made anew: zeros from its start -/
def ZR (it0 it : Nat → Int32) (s : Nat) (n : Int) : Prop := (∀ k : Nat, k < 4 → k ≠ s → ITr it k = ITr it0 k) ∧ ∀ j : Nat, (j : Int) < n → it (60 * s + j) = 0
theorem ZR_0 {it : Nat → Int32} {s : Nat} {n : Int} (h : n ≤ 0) : ZR it it s n := ⟨fun _ _ _ => rfl, fun j hj => by omega⟩
theorem ZR_s {it0 it it2 : Nat → Int32} {s : Nat} {i x : Int32} {n : Int} (h : ZR it0 it s i.toInt) (h0 : 0 ≤ i.toInt ∧ i.toInt < 60) (hx : x.toNatClampNeg = 60 * s + i.toNatClampNeg) (e : it2 = upd it x.toNatClampNeg 0) (hn : n = i.toInt + 1) : ZR it0 it2 s n := by
  have c := z_clamp h0.1
  rw [hx] at e
  refine ⟨fun k hk q => by rw [e, ITr_same q (by omega)]; exact h.1 k hk q, fun j hj => ?_⟩
  by_cases q : j = i.toNatClampNeg
  · rw [e, q, pk_us]
  · rw [e, pk_un (by omega)]; exact h.2 j (by omega)
theorem ZR_e {it0 it : Nat → Int32} {s : Nat} {n : Int} (h : ZR it0 it s n) (hn : 60 ≤ n) : ITr it s = fun _ => 0 := cR_0 (fun j hj => h.2 j (by omega))
/-! items moved -/
theorem cpy_0 {f g : Nat → Int32} {sp dp : Nat} : va_cpy f g sp dp 0 = g := funext fun k => if_neg (by omega)
theorem cpy_s {f g : Nat → Int32} {sp dp n : Nat} {x : Int32} (hx : x = f (sp + n)) : upd (va_cpy f g sp dp n) (dp + n) x = va_cpy f g sp dp (n + 1) := funext fun k => by
  by_cases q : k = dp + n
  · rw [q, pk_us, hx]
    exact ((if_pos (by omega)).trans (by rw [show dp + n - dp = n by omega])).symm
  · rw [pk_un q]
    show (if dp ≤ k ∧ k < dp + n then f (sp + (k - dp)) else g k) = (if dp ≤ k ∧ k < dp + (n + 1) then f (sp + (k - dp)) else g k)
    by_cases q2 : dp ≤ k ∧ k < dp + n
    · rw [if_pos q2, if_pos (by omega)]
    · rw [if_neg q2, if_neg (by omega)]
theorem trM_cpy {z y : ZS} {f mv : Nat → Int32} {s d i j n : Nat} (hy : trM y = trC (z.1 19) (z.1 20) (z.1 11) (z.1 35) (z.2.2.1 2) (z.2.2.1 3) (kM z) (nM z) (z.2.2.1 21) (z.1 22) (z.2.2.1 27) f) (hs : s < 4) (hd : d < 4) (hi : i + n ≤ 60) (hj : j + n ≤ 60) (hm : ∀ q : Nat, q < n → mv q = z.2.2.1 39 (60 * s + i + q)) (hf : f = va_cpy mv (z.2.2.1 39) 0 (60 * d + j) n) : trM y = tSt (trM z) d (va_cpy (tIt (trM z) s) (tIt (trM z) d) i j n) := by
  rw [hy, trM_Ig hd, trM_Ig hs]
  refine trC_it hd (fun k _ q => ?_) ?_
  · rw [hf]
    refine funext fun p => ?_
    show (if p < 60 then cI (if 60 * d + j ≤ 60 * k + p ∧ 60 * k + p < 60 * d + j + n then _ else z.2.2.1 39 (60 * k + p)) else 0) = (if p < 60 then cI (z.2.2.1 39 (60 * k + p)) else 0)
    by_cases w : p < 60
    · rw [if_pos w, if_pos w, if_neg (by omega)]
    · rw [if_neg w, if_neg w]
  · rw [hf]
    refine funext fun p => ?_
    show (if p < 60 then cI (if 60 * d + j ≤ 60 * d + p ∧ 60 * d + p < 60 * d + j + n then mv (0 + (60 * d + p - (60 * d + j))) else z.2.2.1 39 (60 * d + p)) else 0) = (if j ≤ p ∧ p < j + n then ITr (z.2.2.1 39) s (i + (p - j)) else ITr (z.2.2.1 39) d p)
    by_cases w : j ≤ p ∧ p < j + n
    · rw [if_pos w, if_pos (by omega), if_pos (by omega), ITr_at (by omega), hm _ (by omega)]
      exact congrArg (fun q => cI (z.2.2.1 39 q)) (by omega)
    · rw [if_neg w, if_neg (c := 60 * d + j ≤ 60 * d + p ∧ 60 * d + p < 60 * d + j + n) (by omega)]
      rfl
theorem mv_s {f mv mv2 : Nat → Int32} {b : Nat} {k x y : Int32} {n : Int} (h : ∀ q : Nat, (q : Int) < k.toInt → mv q = f (b + q)) (h0 : 0 ≤ k.toInt) (ex : y = f x.toNatClampNeg) (e : mv2 = upd mv k.toNatClampNeg y) (hx : x.toNatClampNeg = b + k.toNatClampNeg) (hn : n = k.toInt + 1) : ∀ q : Nat, (q : Int) < n → mv2 q = f (b + q) := fun q hq => by
  have c := z_clamp h0
  by_cases w : q = k.toNatClampNeg
  · rw [e, w, pk_us, ex, hx]
  · rw [e, pk_un w]; exact h q (by omega)
theorem it_s {mv g it it2 : Nat → Int32} {b : Nat} {k k2 x y : Int32} (h : it = va_cpy mv g 0 b k.toNatClampNeg) (h0 : 0 ≤ k.toInt) (ey : y = mv k.toNatClampNeg) (e : it2 = upd it x.toNatClampNeg y) (hx : x.toNatClampNeg = b + k.toNatClampNeg) (hn : k2.toInt = k.toInt + 1) : it2 = va_cpy mv g 0 b k2.toNatClampNeg := by
  have c := z_clamp h0
  have c2 := z_clamp (x := k2) (by omega)
  rw [e, hx, h, cpy_s (by rw [ey, Nat.zero_add]), show k.toNatClampNeg + 1 = k2.toNatClampNeg by omega]
/-! best: the search, over whole numbers -/
def bsp (n a b : Int) : Int := (n * a + (100 - n) * b) * (2400 - (n * a + (100 - n) * b))
def bsq (a b : Int) : Int := (a - b) * (a - b)
def bWi (v a b : Int) : Prop := a ≤ v * b ∧ 24 - b ≤ v * (24 - a)
def bLs (n a b A B : Int) : Prop := bsp n a b * bsq A B < bsp n A B * bsq a b
def BQ (A B : Int) : Prop := (A = -1 ∧ B = -1) ∨ (1 ≤ B ∧ B < A ∧ A ≤ 23)
noncomputable def bst (v n a b : Int) (s : Int × Int) : Int × Int := @ite _ (bWi v a b ∧ (s.1 = -1 ∨ bLs n a b s.1 s.2)) (Classical.propDecidable _) (a, b) s
noncomputable def bI (v n a : Int) : Nat → Int → Int × Int → Int × Int
  | 0, _, s => s
  | f + 1, b, s => bI v n a f (b + 1) (bst v n a b s)
noncomputable def bO (v n : Int) : Nat → Int → Int × Int → Int × Int
  | 0, _, s => s
  | f + 1, a, s => bO v n f (a + 1) (bI v n a (a - 1).toNat 1 s)
noncomputable def bR (v n : Int) : Int × Int := bO v n 22 2 (-1, -1)
theorem bWi_y {v a b : Int} (h1 : a ≤ v * b) (h2 : 24 - b ≤ v * (24 - a)) : bWi v a b := ⟨h1, h2⟩
theorem bst_p {v n a b A B : Int} (h1 : bWi v a b) (h2 : A = -1 ∨ bLs n a b A B) : bst v n a b (A, B) = (a, b) := by
  unfold bst
  exact if_pos ⟨h1, h2⟩
theorem bst_n1 {v n a b A B : Int} (h : ¬ a ≤ v * b) : bst v n a b (A, B) = (A, B) := by
  unfold bst
  exact if_neg (fun q => h q.1.1)
theorem bst_n2 {v n a b A B : Int} (h : ¬ 24 - b ≤ v * (24 - a)) : bst v n a b (A, B) = (A, B) := by
  unfold bst
  exact if_neg (fun q => h q.1.2)
theorem bst_n3 {v n a b A B : Int} (h : ¬ A = -1) (h2 : ¬ bLs n a b A B) : bst v n a b (A, B) = (A, B) := by
  unfold bst
  exact if_neg (fun q => q.2.elim h h2)
theorem bI_next {v n a b c : Int} {s s2 T : Int × Int} {F : Nat} (h : b < a) (hc : c = b + 1) (hs : bst v n a b s = s2) (ho : bO v n F (a + 1) (bI v n a (a - b).toNat b s) = T) : bO v n F (a + 1) (bI v n a (a - c).toNat c s2) = T := by
  have e : (a - b).toNat = (a - c).toNat + 1 := by omega
  rw [e, bI, hs, ← hc] at ho
  exact ho
theorem bI_end {v n a b c : Int} {s T : Int × Int} (h : a ≤ b) (hc : c = a + 1) (ho : bO v n (24 - (a + 1)).toNat (a + 1) (bI v n a (a - b).toNat b s) = T) : bO v n (24 - c).toNat c s = T := by
  have e : (a - b).toNat = 0 := by omega
  rw [e, bI, ← hc] at ho
  exact ho
theorem bO_step {v n a b : Int} {s T : Int × Int} (h : a < 24) (hb : b = 1) (ho : bO v n (24 - a).toNat a s = T) : bO v n (24 - (a + 1)).toNat (a + 1) (bI v n a (a - b).toNat b s) = T := by
  have e : (24 - a).toNat = (24 - (a + 1)).toNat + 1 := by omega
  rw [e, bO] at ho
  rw [hb]
  exact ho
theorem bO_end {v n a : Int} {s T : Int × Int} (h : 24 ≤ a) (ho : bO v n (24 - a).toNat a s = T) : s = T := by
  have e : (24 - a).toNat = 0 := by omega
  rw [e, bO] at ho
  exact ho
theorem bO_0 {v n a A B : Int} (ha : a = 2) (hA : A = -1) (hB : B = -1) : bO v n (24 - a).toNat a (A, B) = bR v n := by
  subst ha hA hB
  have e : ((24 : Int) - 2).toNat = 22 := by decide
  rw [e]
  unfold bR
  rfl
noncomputable def tBest (v n w : Int32) : Int32 := if (2 ≤ v.toInt ∧ v.toInt ≤ 30) ∧ (0 ≤ n.toInt ∧ n.toInt ≤ 100) ∧ (0 ≤ w.toInt ∧ w.toInt < 2) then Int32.ofInt (if (bR v.toInt n.toInt).1 = -1 then -3 else if w.toInt = 0 then (bR v.toInt n.toInt).1 else (bR v.toInt n.toInt).2) else -2
theorem tBest_bad {v n w : Int32} (h : ¬ ((2 ≤ v.toInt ∧ v.toInt ≤ 30) ∧ (0 ≤ n.toInt ∧ n.toInt ≤ 100) ∧ (0 ≤ w.toInt ∧ w.toInt < 2))) : (-2 : Int32) = tBest v n w := (if_neg h).symm
theorem tBest_r {v n w r : Int32} {A B : Int} (h : (2 ≤ v.toInt ∧ v.toInt ≤ 30) ∧ (0 ≤ n.toInt ∧ n.toInt ≤ 100) ∧ (0 ≤ w.toInt ∧ w.toInt < 2)) (he : (A, B) = bR v.toInt n.toInt) (hr : r.toInt = if A = -1 then -3 else if w.toInt = 0 then A else B) : r = tBest v n w := by
  unfold tBest
  rw [if_pos h, ← he, ← hr, Int32.ofInt_toInt]
