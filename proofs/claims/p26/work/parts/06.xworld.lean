def xA (z : ZS) : ZS := (fun j => z.1 (5 + j), z.2.1, fun a => z.2.2.1 (1 + a), z.2.2.2)
def xsA (z u : ZS) : ZS := (fun i => if i = 5 then u.1 0 else if i = 6 then u.1 1 else z.1 i, z.2.1, fun a => if a = 1 then u.2.2.1 0 else if a = 2 then u.2.2.1 1 else if a = 3 then u.2.2.1 2 else if a = 4 then u.2.2.1 3 else if a = 5 then u.2.2.1 4 else if a = 6 then u.2.2.1 5 else if a = 7 then u.2.2.1 6 else z.2.2.1 a, z.2.2.2)
def xP (z : ZS) : ZS := (fun j => z.1 (7 + j), z.2)
def xsP (z u : ZS) : ZS := (fun i => if i = 7 then u.1 0 else if i = 8 then u.1 1 else if i = 9 then u.1 2 else z.1 i, z.2)
abbrev xL (z : ZS) : ZS := z
abbrev xsL (z u : ZS) : ZS := sL z 0 (u.2.2.2 0)
abbrev xF (z : ZS) : ZS := z
abbrev xsF (z u : ZS) : ZS := sJ (sJ z 0 (u.2.1 0)) 1 (u.2.1 1)
def xD (z : ZS) (d : Nat) : ZS := (fun j => z.1 (10 + 6 * d + j), fun j => z.2.1 (2 + d + j), fun a => z.2.2.1 (8 + d + a), fun a => z.2.2.2 (1 + d + a))
def xsD (z : ZS) (d : Nat) (u : ZS) : ZS := (fun i => if 10 + 6 * d ≤ i ∧ i < 16 + 6 * d then u.1 (i - (10 + 6 * d)) else z.1 i, fun i => if i = 2 + d then u.2.1 0 else z.2.1 i, fun a => if a = 8 + d then u.2.2.1 0 else z.2.2.1 a, fun a => if a = 1 + d then u.2.2.2 0 else z.2.2.2 a)
def xS (z : ZS) (d : Nat) : ZS := (fun j => z.1 (34 + 2 * d + j), z.2.1, fun a => z.2.2.1 (12 + d + a), z.2.2.2)
def xsS (z : ZS) (d : Nat) (u : ZS) : ZS := (fun i => if i = 34 + 2 * d then u.1 0 else if i = 35 + 2 * d then u.1 1 else z.1 i, z.2.1, fun a => if a = 12 + d then u.2.2.1 0 else z.2.2.1 a, z.2.2.2)
theorem zgD_at {q : Nat → Nat} : ∀ {d : Nat}, d < 4 → va_rf (zgD q d) = .ref (qD q d 0)
  | 0, _ => rfl
  | 1, _ => rfl
  | 2, _ => rfl
  | 3, _ => rfl
  | _ + 4, h => absurd h (by omega)

theorem zgS_at {q : Nat → Nat} : ∀ {d : Nat}, d < 4 → va_rf (zgS q d) = .ref (qS q d 0)
  | 0, _ => rfl
  | 1, _ => rfl
  | 2, _ => rfl
  | 3, _ => rfl
  | _ + 4, h => absurd h (by omega)

theorem zgD_at2 {q : Nat → Nat} {d : Nat} {i : Int32} (e : d = i.toNatClampNeg) (h : d < 4) : va_rf (zgD q i.toNatClampNeg) = .ref (qD q d 0) := by rw [← e]; exact zgD_at h
theorem zgS_at2 {q : Nat → Nat} {d : Nat} {i : Int32} (e : d = i.toNatClampNeg) (h : d < 4) : va_rf (zgS q i.toNatClampNeg) = .ref (qS q d 0) := by rw [← e]; exact zgS_at h
theorem zX_D0 {k : Nat → ClassId} {q : Nat → Nat} {z : ZS} : ∀ {d : Nat}, d < 4 → (zX k q z)[16 + 3 * d]? = some (qD q d 0, .inr (1, [.ref (qD q d 1), .ref (qD q d 2), .long (z.2.1 (2 + d)), .int (z.1 (10 + 6 * d + 0)), .int (z.1 (10 + 6 * d + 1)), .int (z.1 (10 + 6 * d + 2)), .int (z.1 (10 + 6 * d + 3)), .int (z.1 (10 + 6 * d + 4)), .int (z.1 (10 + 6 * d + 5))]))
  | 0, _ => rfl
  | 1, _ => rfl
  | 2, _ => rfl
  | 3, _ => rfl
  | _ + 4, h => absurd h (by omega)

theorem zX_S0 {k : Nat → ClassId} {q : Nat → Nat} {z : ZS} : ∀ {d : Nat}, d < 4 → (zX k q z)[28 + 2 * d]? = some (qS q d 0, .inr (5, [.ref (qS q d 1), .int (z.1 (34 + 2 * d + 0)), .int (z.1 (34 + 2 * d + 1))]))
  | 0, _ => rfl
  | 1, _ => rfl
  | 2, _ => rfl
  | 3, _ => rfl
  | _ + 4, h => absurd h (by omega)

theorem zX_S1 {k : Nat → ClassId} {q : Nat → Nat} {z : ZS} : ∀ {d : Nat}, d < 4 → (zX k q z)[29 + 2 * d]? = some (qS q d 1, .inl (k 0, 60, .inl (z.2.2.1 (12 + d + 0))))
  | 0, _ => rfl
  | 1, _ => rfl
  | 2, _ => rfl
  | 3, _ => rfl
  | _ + 4, h => absurd h (by omega)

theorem zX_DC {k : Nat → ClassId} {q : Nat → Nat} {z : ZS} : ∀ {d : Nat}, d < 4 → [16 + 3 * d, 17 + 3 * d, 18 + 3 * d].map (fun i => (zX k q z)[i]?) = (zD k (qD q d) (xD z d)).map some
  | 0, _ => rfl
  | 1, _ => rfl
  | 2, _ => rfl
  | 3, _ => rfl
  | _ + 4, h => absurd h (by omega)

theorem zX_SC {k : Nat → ClassId} {q : Nat → Nat} {z : ZS} : ∀ {d : Nat}, d < 4 → [28 + 2 * d, 29 + 2 * d].map (fun i => (zX k q z)[i]?) = (zS k (qS q d) (xS z d)).map some
  | 0, _ => rfl
  | 1, _ => rfl
  | 2, _ => rfl
  | 3, _ => rfl
  | _ + 4, h => absurd h (by omega)

theorem zX_Dset {k : Nat → ClassId} {q : Nat → Nat} {z u : ZS} : ∀ {d : Nat}, d < 4 → zset (zX k q z) [16 + 3 * d, 17 + 3 * d, 18 + 3 * d] (zD k (qD q d) u) = zX k q (xsD z d u)
  | 0, _ => rfl
  | 1, _ => rfl
  | 2, _ => rfl
  | 3, _ => rfl
  | _ + 4, h => absurd h (by omega)

theorem zX_Sset {k : Nat → ClassId} {q : Nat → Nat} {z u : ZS} : ∀ {d : Nat}, d < 4 → zset (zX k q z) [28 + 2 * d, 29 + 2 * d] (zS k (qS q d) u) = zX k q (xsS z d u)
  | 0, _ => rfl
  | 1, _ => rfl
  | 2, _ => rfl
  | 3, _ => rfl
  | _ + 4, h => absurd h (by omega)

theorem zX_Dkeep {k : Nat → ClassId} {q : Nat → Nat} {z : ZS} : ∀ {d : Nat}, d < 4 → zset (zX k q z) [16 + 3 * d, 17 + 3 * d, 18 + 3 * d] (zD k (qD q d) (xD z d)) = zX k q z
  | 0, _ => rfl
  | 1, _ => rfl
  | 2, _ => rfl
  | 3, _ => rfl
  | _ + 4, h => absurd h (by omega)

theorem zX_Skeep {k : Nat → ClassId} {q : Nat → Nat} {z : ZS} : ∀ {d : Nat}, d < 4 → zset (zX k q z) [28 + 2 * d, 29 + 2 * d] (zS k (qS q d) (xS z d)) = zX k q z
  | 0, _ => rfl
  | 1, _ => rfl
  | 2, _ => rfl
  | 3, _ => rfl
  | _ + 4, h => absurd h (by omega)

theorem zX_ndD  : ∀ {d : Nat}, d < 4 → va_nd [16 + 3 * d, 17 + 3 * d, 18 + 3 * d] = true
  | 0, _ => rfl
  | 1, _ => rfl
  | 2, _ => rfl
  | 3, _ => rfl
  | _ + 4, h => absurd h (by omega)

theorem zX_ndS  : ∀ {d : Nat}, d < 4 → va_nd [28 + 2 * d, 29 + 2 * d] = true
  | 0, _ => rfl
  | 1, _ => rfl
  | 2, _ => rfl
  | 3, _ => rfl
  | _ + 4, h => absurd h (by omega)

def qE (q : Nat → Nat) (d : Nat) : Nat → Nat := fun j => if j < 2 then q (13 + j) else qD q d (j - 2)
def xE (z : ZS) (d : Nat) : ZS := (fun j => z.1 (10 + 6 * d + j), fun j => z.2.1 (2 + d + j), fun a => z.2.2.1 (8 + d + a), fun a => if a = 0 then z.2.2.2 0 else z.2.2.2 (d + a))
def xED (z : ZS) : ZS := (z.1, z.2.1, z.2.2.1, fun a => z.2.2.2 (1 + a))
theorem zX_EC {k : Nat → ClassId} {q : Nat → Nat} {z : ZS} : ∀ {d : Nat}, d < 4 → [13, 14, 16 + 3 * d, 17 + 3 * d, 18 + 3 * d].map (fun i => (zX k q z)[i]?) = (zE k (qE q d) (xE z d)).map some
  | 0, _ => rfl
  | 1, _ => rfl
  | 2, _ => rfl
  | 3, _ => rfl
  | _ + 4, h => absurd h (by omega)

theorem zX_Eset {k : Nat → ClassId} {q : Nat → Nat} {z : ZS} {f : Nat → Int64} : ∀ {d : Nat}, d < 4 → zset (zX k q z) [13, 14, 16 + 3 * d, 17 + 3 * d, 18 + 3 * d] (zE k (qE q d) (sL (xE z d) 0 f)) = zX k q (sL z 0 f)
  | 0, _ => rfl
  | 1, _ => rfl
  | 2, _ => rfl
  | 3, _ => rfl
  | _ + 4, h => absurd h (by omega)

theorem zX_ndE  : ∀ {d : Nat}, d < 4 → va_nd [13, 14, 16 + 3 * d, 17 + 3 * d, 18 + 3 * d] = true
  | 0, _ => rfl
  | 1, _ => rfl
  | 2, _ => rfl
  | 3, _ => rfl
  | _ + 4, h => absurd h (by omega)

def P6 (n : Int32) (f g : Nat → Int32) : Prop := 0 ≤ n.toInt ∧ n.toInt ≤ 120 ∧ ∀ i : Nat, (i : Int) < n.toInt → 0 ≤ (f i).toInt ∧ (f i).toInt < 24 ∧ 0 ≤ (g i).toInt ∧ (g i).toInt < 4
def XR (x : Int32) : Prop := 0 ≤ x.toInt ∧ x.toInt ≤ 60
def XInv (z : ZS) : Prop := P6 (z.1 6) (z.2.2.1 1) (z.2.2.1 2) ∧ ((0 ≤ (z.1 0).toInt ∧ (z.1 0).toInt ≤ 399) ∧ (0 ≤ (z.1 2).toInt ∧ (z.1 2).toInt ≤ 24)) ∧ XR (z.1 11) ∧ XR (z.1 17) ∧ XR (z.1 23) ∧ XR (z.1 29) ∧ XR (z.1 35) ∧ XR (z.1 37) ∧ XR (z.1 39) ∧ XR (z.1 41)
abbrev TT : Type := List Int32 × (Nat → Int32) × List (Nat → Int32)
def tr60 (f : Nat → Int32) : Nat → Int32 := fun i => if i < 60 then f i else 0
def lx (f v : Int32) : Int32 := if f.toInt = -1 then v else 0
/-- an item, 0 and 1 taken as one -/
def cI (x : Int32) : Int32 := if x = 1 then 0 else x
def cR (f : Nat → Int32) : Nat → Int32 := fun i => if i < 60 then cI (f i) else 0
def trX (z : ZS) : TT := ([z.1 0, z.1 1, z.1 2, z.1 3, z.1 11, z.1 17, z.1 23, z.1 29, z.1 34, z.1 35, z.1 36, z.1 37, z.1 38, z.1 39, z.1 40, z.1 41, z.1 12, z.1 18, z.1 24, z.1 30, lx (z.1 12) (z.1 15), lx (z.1 12) (z.1 13), lx (z.1 12) (z.1 14), lx (z.1 18) (z.1 21), lx (z.1 18) (z.1 19), lx (z.1 18) (z.1 20), lx (z.1 24) (z.1 27), lx (z.1 24) (z.1 25), lx (z.1 24) (z.1 26), lx (z.1 30) (z.1 33), lx (z.1 30) (z.1 31), lx (z.1 30) (z.1 32), z.1 6], z.2.2.1 0, [tr60 (z.2.2.1 8), tr60 (z.2.2.1 9), tr60 (z.2.2.1 10), tr60 (z.2.2.1 11), z.2.2.1 5, cR (z.2.2.1 12), cR (z.2.2.1 13), cR (z.2.2.1 14), cR (z.2.2.1 15)])
theorem XInv_D {z : ZS} : ∀ {d : Nat}, d < 4 → XInv z → XR (z.1 (10 + 6 * d + 1))
  | 0, _, h => h.2.2.1
  | 1, _, h => h.2.2.2.1
  | 2, _, h => h.2.2.2.2.1
  | 3, _, h => h.2.2.2.2.2.1
  | _ + 4, h, _ => absurd h (by omega)

theorem XInv_S {z : ZS} : ∀ {d : Nat}, d < 4 → XInv z → XR (z.1 (34 + 2 * d + 1))
  | 0, _, h => h.2.2.2.2.2.2.1
  | 1, _, h => h.2.2.2.2.2.2.2.1
  | 2, _, h => h.2.2.2.2.2.2.2.2.1
  | 3, _, h => h.2.2.2.2.2.2.2.2.2
  | _ + 4, h, _ => absurd h (by omega)

theorem XInv_xsD {z u : ZS} : ∀ {d : Nat}, d < 4 → XInv z → XR (u.1 1) → XInv (xsD z d u)
  | 0, _, h, hu => ⟨h.1, h.2.1, hu, h.2.2.2.1, h.2.2.2.2.1, h.2.2.2.2.2.1, h.2.2.2.2.2.2.1, h.2.2.2.2.2.2.2.1, h.2.2.2.2.2.2.2.2.1, h.2.2.2.2.2.2.2.2.2⟩
  | 1, _, h, hu => ⟨h.1, h.2.1, h.2.2.1, hu, h.2.2.2.2.1, h.2.2.2.2.2.1, h.2.2.2.2.2.2.1, h.2.2.2.2.2.2.2.1, h.2.2.2.2.2.2.2.2.1, h.2.2.2.2.2.2.2.2.2⟩
  | 2, _, h, hu => ⟨h.1, h.2.1, h.2.2.1, h.2.2.2.1, hu, h.2.2.2.2.2.1, h.2.2.2.2.2.2.1, h.2.2.2.2.2.2.2.1, h.2.2.2.2.2.2.2.2.1, h.2.2.2.2.2.2.2.2.2⟩
  | 3, _, h, hu => ⟨h.1, h.2.1, h.2.2.1, h.2.2.2.1, h.2.2.2.2.1, hu, h.2.2.2.2.2.2.1, h.2.2.2.2.2.2.2.1, h.2.2.2.2.2.2.2.2.1, h.2.2.2.2.2.2.2.2.2⟩
  | _ + 4, h, _, _ => absurd h (by omega)

theorem XInv_xsS {z u : ZS} : ∀ {d : Nat}, d < 4 → XInv z → XR (u.1 1) → XInv (xsS z d u)
  | 0, _, h, hu => ⟨h.1, h.2.1, h.2.2.1, h.2.2.2.1, h.2.2.2.2.1, h.2.2.2.2.2.1, hu, h.2.2.2.2.2.2.2.1, h.2.2.2.2.2.2.2.2.1, h.2.2.2.2.2.2.2.2.2⟩
  | 1, _, h, hu => ⟨h.1, h.2.1, h.2.2.1, h.2.2.2.1, h.2.2.2.2.1, h.2.2.2.2.2.1, h.2.2.2.2.2.2.1, hu, h.2.2.2.2.2.2.2.2.1, h.2.2.2.2.2.2.2.2.2⟩
  | 2, _, h, hu => ⟨h.1, h.2.1, h.2.2.1, h.2.2.2.1, h.2.2.2.2.1, h.2.2.2.2.2.1, h.2.2.2.2.2.2.1, h.2.2.2.2.2.2.2.1, hu, h.2.2.2.2.2.2.2.2.2⟩
  | 3, _, h, hu => ⟨h.1, h.2.1, h.2.2.1, h.2.2.2.1, h.2.2.2.2.1, h.2.2.2.2.2.1, h.2.2.2.2.2.2.1, h.2.2.2.2.2.2.2.1, h.2.2.2.2.2.2.2.2.1, hu⟩
  | _ + 4, h, _, _ => absurd h (by omega)

theorem trX_app {z : ZS} {s : Int32} {t : Nat → Int32} : ∀ {d : Nat}, d < 4 → trX (xsD z d (sA (sI (xD z d) 1 s) 0 t)) = ((trX z).1.set (4 + d) s, (trX z).2.1, (trX z).2.2.set d (tr60 t))
  | 0, _ => rfl
  | 1, _ => rfl
  | 2, _ => rfl
  | 3, _ => rfl
  | _ + 4, h => absurd h (by omega)

theorem trX_emp {z : ZS} {s : Int32} : ∀ {d : Nat}, d < 4 → trX (xsD z d (sI (xD z d) 1 s)) = ((trX z).1.set (4 + d) s, (trX z).2)
  | 0, _ => rfl
  | 1, _ => rfl
  | 2, _ => rfl
  | 3, _ => rfl
  | _ + 4, h => absurd h (by omega)

theorem trX_set {z : ZS} {a f y n u : Int32} {c : Int64} {s : Nat → Int64} : ∀ {d : Nat}, d < 4 → trX (xsD z d (sL (sJ (sI (sI (sI (sI (sI (xD z d) 0 a) 2 f) 3 y) 4 n) 5 u) 0 c) 0 s)) = (((((trX z).1.set (16 + d) f).set (20 + 3 * d) (lx f u)).set (21 + 3 * d) (lx f y)).set (22 + 3 * d) (lx f n), (trX z).2)
  | 0, _ => rfl
  | 1, _ => rfl
  | 2, _ => rfl
  | 3, _ => rfl
  | _ + 4, h => absurd h (by omega)

theorem trX_Lg {z : ZS} : ∀ {d : Nat}, d < 4 → (trX z).1.getD (20 + 3 * d) 0 = lx (z.1 (10 + 6 * d + 2)) (z.1 (10 + 6 * d + 5)) ∧ (trX z).1.getD (21 + 3 * d) 0 = lx (z.1 (10 + 6 * d + 2)) (z.1 (10 + 6 * d + 3)) ∧ (trX z).1.getD (22 + 3 * d) 0 = lx (z.1 (10 + 6 * d + 2)) (z.1 (10 + 6 * d + 4))
  | 0, _ => ⟨rfl, rfl, rfl⟩
  | 1, _ => ⟨rfl, rfl, rfl⟩
  | 2, _ => ⟨rfl, rfl, rfl⟩
  | 3, _ => ⟨rfl, rfl, rfl⟩
  | _ + 4, h => absurd h (by omega)

theorem trX_Tg {z : ZS} : ∀ {d : Nat}, d < 4 → tr60 ((xD z d).2.2.1 0) = (trX z).2.2.getD d (fun _ => 0)
  | 0, _ => rfl
  | 1, _ => rfl
  | 2, _ => rfl
  | 3, _ => rfl
  | _ + 4, h => absurd h (by omega)

theorem trX_Fg {z : ZS} : ∀ {d : Nat}, d < 4 → (trX z).1.getD (16 + d) 0 = z.1 (10 + 6 * d + 2)
  | 0, _ => rfl
  | 1, _ => rfl
  | 2, _ => rfl
  | 3, _ => rfl
  | _ + 4, h => absurd h (by omega)

theorem trX_xsS {z u : ZS} : ∀ {d : Nat}, d < 4 → trX (xsS z d u) = (((trX z).1.set (8 + 2 * d) (u.1 0)).set (9 + 2 * d) (u.1 1), (trX z).2.1, (trX z).2.2.set (5 + d) (cR (u.2.2.1 0)))
  | 0, _ => rfl
  | 1, _ => rfl
  | 2, _ => rfl
  | 3, _ => rfl
  | _ + 4, h => absurd h (by omega)

theorem trX_Ig {z : ZS} : ∀ {d : Nat}, d < 4 → (trX z).2.2.getD (5 + d) (fun _ => 0) = cR (z.2.2.1 (12 + d + 0))
  | 0, _ => rfl
  | 1, _ => rfl
  | 2, _ => rfl
  | 3, _ => rfl
  | _ + 4, h => absurd h (by omega)

theorem trX_D {z : ZS} : ∀ {d : Nat}, d < 4 → ((trX z).1.set (4 + d) ((xD z d).1 1), (trX z).2.1, (trX z).2.2.set d (tr60 ((xD z d).2.2.1 0))) = trX z
  | 0, _ => rfl
  | 1, _ => rfl
  | 2, _ => rfl
  | 3, _ => rfl
  | _ + 4, h => absurd h (by omega)

theorem trX_S {z : ZS} : ∀ {d : Nat}, d < 4 → (((trX z).1.set (8 + 2 * d) (z.1 (34 + 2 * d + 0))).set (9 + 2 * d) (z.1 (34 + 2 * d + 1)), (trX z).2) = trX z
  | 0, _ => rfl
  | 1, _ => rfl
  | 2, _ => rfl
  | 3, _ => rfl
  | _ + 4, h => absurd h (by omega)

theorem trX_keep {z u : ZS} {d : Nat} (hd : d < 4) (h0 : u.1 0 = z.1 (34 + 2 * d + 0)) (h1 : u.1 1 = z.1 (34 + 2 * d + 1)) : trX (xsS z d u) = ((trX z).1, (trX z).2.1, (trX z).2.2.set (5 + d) (cR (u.2.2.1 0))) := by
  rw [trX_xsS hd, h0, h1, show ((trX z).1.set (8 + 2 * d) (z.1 (34 + 2 * d + 0))).set (9 + 2 * d) (z.1 (34 + 2 * d + 1)) = (trX z).1 from congrArg Prod.fst (trX_S (z := z) hd)]
theorem trX_AK {z : ZS} : ((trX z).1.set 32 ((xA z).1 1), (trX z).2.1, (trX z).2.2.set 4 ((xA z).2.2.1 4)) = trX z := rfl
theorem trX_Dg {z : ZS} : ∀ {d : Nat}, d < 4 → (trX z).1.getD (4 + d) 0 = z.1 (10 + 6 * d + 1)
  | 0, _ => rfl
  | 1, _ => rfl
  | 2, _ => rfl
  | 3, _ => rfl
  | _ + 4, h => absurd h (by omega)

theorem trX_Sg {z : ZS} : ∀ {d : Nat}, d < 4 → (trX z).1.getD (8 + 2 * d) 0 = z.1 (34 + 2 * d + 0) ∧ (trX z).1.getD (9 + 2 * d) 0 = z.1 (34 + 2 * d + 1)
  | 0, _ => ⟨rfl, rfl⟩
  | 1, _ => ⟨rfl, rfl⟩
  | 2, _ => ⟨rfl, rfl⟩
  | 3, _ => ⟨rfl, rfl⟩
  | _ + 4, h => absurd h (by omega)

theorem zX_cpy {k : Nat → ClassId} {q : Nat → Nat} {z : ZS} {f : Nat → Int32} : ∀ {d : Nat}, d < 4 → (zX k q z).set (29 + 2 * d) (qS q d 1, .inl (k 0, 60, .inl f)) = zX k q (sA z (12 + d) f)
  | 0, _ => rfl
  | 1, _ => rfl
  | 2, _ => rfl
  | 3, _ => rfl
  | _ + 4, h => absurd h (by omega)

theorem XInv_it {z : ZS} {f : Nat → Int32} : ∀ {d : Nat}, d < 4 → XInv z → XInv (sA z (12 + d) f)
  | 0, _ => fun h => h
  | 1, _ => fun h => h
  | 2, _ => fun h => h
  | 3, _ => fun h => h
  | _ + 4, h => absurd h (by omega)

theorem trX_it {z : ZS} {f : Nat → Int32} : ∀ {d : Nat}, d < 4 → trX (sA z (12 + d) f) = ((trX z).1, (trX z).2.1, (trX z).2.2.set (5 + d) (cR f))
  | 0, _ => rfl
  | 1, _ => rfl
  | 2, _ => rfl
  | 3, _ => rfl
  | _ + 4, h => absurd h (by omega)

theorem P6_tell {n m x p d : Int32} {f g f2 g2 : Nat → Int32} (h : P6 n f g) (em : m = n) (hn : m.toInt < 120) (ex : x = m + 1) (ef : f2 = upd f m.toNatClampNeg p) (eg : g2 = upd g m.toNatClampNeg d) (hp : 0 ≤ p.toInt ∧ p.toInt < 24) (hd : 0 ≤ d.toInt ∧ d.toInt < 4) : P6 x f2 g2 := by
  subst em
  obtain ⟨h0, h1, h2⟩ := h
  have hx : x.toInt = m.toInt + 1 := z_add ex rfl (show (1 : Int32).toInt = 1 by decide) (by omega)
  have hc := z_clamp h0
  refine ⟨by omega, by omega, fun i hi => ?_⟩
  by_cases q : i = m.toNatClampNeg
  · rw [ef, eg, q, pk_us, pk_us]; omega
  · rw [ef, eg, pk_un q, pk_un q]; exact h2 i (by omega)
theorem sL_sL {z : ZS} {f g : Nat → Int64} : sL (sL z 0 f) 0 g = sL z 0 g := by
  unfold sL
  simp only [Prod.mk.injEq, true_and]
  funext j
  by_cases h : j = 0 <;> simp [h]
/-! what is picked of a person: of each design two at most, so eight at most -/
def PK (n : Int32) (b p : Nat → Int32) (m : Int32) : Prop := (0 ≤ (b 0).toInt ∧ (b 0).toInt ≤ 2) ∧ (0 ≤ (b 1).toInt ∧ (b 1).toInt ≤ 2) ∧ (0 ≤ (b 2).toInt ∧ (b 2).toInt ≤ 2) ∧ (0 ≤ (b 3).toInt ∧ (b 3).toInt ≤ 2) ∧ n.toInt = (b 0).toInt + (b 1).toInt + (b 2).toInt + (b 3).toInt ∧ ∀ i : Nat, (i : Int) < n.toInt → 0 ≤ (p i).toInt ∧ (p i).toInt < m.toInt
theorem PK_0 {n m : Int32} {b p : Nat → Int32} (hn : n.toInt = 0) (h : ∀ j : Nat, j < 4 → b j = 0) : PK n b p m := by
  have e : (0 : Int32).toInt = 0 := by decide
  unfold PK
  rw [h 0 (by decide), h 1 (by decide), h 2 (by decide), h 3 (by decide)]
  refine ⟨by omega, by omega, by omega, by omega, by omega, fun i hi => by omega⟩
theorem z_cl4c {d : Int32} (h : 0 ≤ d.toInt ∧ d.toInt < 4) : d.toNatClampNeg = 0 ∨ d.toNatClampNeg = 1 ∨ d.toNatClampNeg = 2 ∨ d.toNatClampNeg = 3 := by
  have e : d.toNatClampNeg = d.toInt.toNat := rfl
  omega
theorem PK_lt {n m d : Int32} {b p : Nat → Int32} (h : PK n b p m) (hd : 0 ≤ d.toInt ∧ d.toInt < 4) (hb : (b d.toNatClampNeg).toInt < 2) : 0 ≤ n.toInt ∧ n.toInt < 8 := by
  obtain ⟨h0, h1, h2, h3, hs, -⟩ := h
  rcases z_cl4c hd with q | q | q | q <;> rw [q] at hb <;> omega
theorem PK_step {n n' m d i x v w y : Int32} {b p p2 b2 : Nat → Int32} (h : PK n b p m) (hd : 0 ≤ d.toInt ∧ d.toInt < 4) (ev : v = b d.toNatClampNeg) (en : n' = n) (ep : p2 = upd p n'.toNatClampNeg i) (ex : x = n' + 1) (ey : y = w + 1) (eb : b2 = upd b d.toNatClampNeg y) (hv : v.toInt < 2) (hi : 0 ≤ i.toInt) (him : i.toInt < m.toInt) (ew : w = b d.toNatClampNeg := by assumption) : PK x b2 p2 m := by
  subst en ev
  have hn := PK_lt h hd hv
  obtain ⟨h0, h1, h2, h3, hs, ha⟩ := h
  have hx : x.toInt = n'.toInt + 1 := z_add ex rfl (show (1 : Int32).toInt = 1 by decide) (by omega)
  have hw : (b d.toNatClampNeg).toInt = w.toInt := by rw [ew]
  have hb0 : 0 ≤ w.toInt ∧ w.toInt < 2 := by rcases z_cl4c hd with q | q | q | q <;> rw [q] at hw hv <;> omega
  have hy : y.toInt = w.toInt + 1 := z_add ey rfl (show (1 : Int32).toInt = 1 by decide) (by omega)
  have hp : ∀ k : Nat, (k : Int) < x.toInt → 0 ≤ (p2 k).toInt ∧ (p2 k).toInt < m.toInt := by
    intro k hk
    have hc := z_clamp hn.1
    by_cases q : k = n'.toNatClampNeg
    · rw [ep, q, pk_us]; exact ⟨hi, him⟩
    · rw [ep, pk_un q]; exact ha k (by omega)
  unfold PK
  rw [eb]
  rcases z_cl4c hd with q | q | q | q <;> rw [q] at hw ⊢ <;> simp only [upd] <;> refine ⟨?_, ?_, ?_, ?_, ?_, hp⟩ <;> simp <;> omega
theorem PK_8 {n m : Int32} {b p : Nat → Int32} (h : PK n b p m) : 0 ≤ n.toInt ∧ n.toInt ≤ 8 := by
  obtain ⟨h0, h1, h2, h3, hs, -⟩ := h
  omega
theorem z_half {x y : Int32} (e : y = x / 2) (h : 0 ≤ x.toInt) : 2 * y.toInt ≤ x.toInt ∧ 0 ≤ y.toInt := by
  have q : (2 : Int32).toInt = 2 := by decide
  have hy : y.toInt = x.toInt.tdiv 2 := by rw [e, Jvm.Kit.i32_div (by omega), q]
  rw [Int.tdiv_eq_ediv_of_nonneg h] at hy
  omega
theorem z_lt60 {i n : Int32} (h : 0 ≤ i.toInt ∧ i.toInt < n.toInt) (hn : XR n) : 0 ≤ i.toInt ∧ i.toInt < 60 := by
  unfold XR at hn
  omega
theorem z_nlt0 {x : Int32} (h : 0 ≤ x.toInt) : ¬ x < 0 := by
  have e : (0 : Int32).toInt = 0 := by decide
  rw [Int32.lt_iff_toInt_lt]
  omega
theorem z_cp {x y : Int32} (hx : 0 ≤ x.toInt) (hy : 0 ≤ y.toInt) (h : x.toInt + y.toInt ≤ 60) : x.toNatClampNeg + y.toNatClampNeg ≤ 60 := by
  have e1 := z_clamp hx
  have e2 := z_clamp hy
  omega
theorem z_min24 {x y : Int32} (e : x = if (24 : Int32) < y then 24 else y) (h : 0 ≤ y.toInt) : 0 ≤ x.toInt ∧ x.toInt ≤ 24 := by
  have q : (24 : Int32).toInt = 24 := by decide
  by_cases c : (24 : Int32) < y
  · rw [if_pos c] at e
    rw [e]; omega
  · rw [if_neg c] at e
    rw [Int32.lt_iff_toInt_lt] at c
    rw [e]; omega
