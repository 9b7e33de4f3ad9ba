/-! reading a design's text: bytes by place, -1 behind its end; what a part, and all parts, come to -/
def bX (n : Int32) (t : Nat → Int32) (i : Int) : Int := if 0 ≤ i ∧ i < n.toInt ∧ i < 60 then (t i.toNat).toInt else -1
def nC (B : Int → Int) (a : Int) : Int := if 48 ≤ B a ∧ B a ≤ 57 then (if 48 ≤ B (a + 1) ∧ B (a + 1) ≤ 57 then 2 else 1) else 0
def nV (B : Int → Int) (a : Int) : Int := if 48 ≤ B a ∧ B a ≤ 57 then (if 48 ≤ B (a + 1) ∧ B (a + 1) ≤ 57 then 10 * (B a - 48) + (B (a + 1) - 48) else B a - 48) else 0
theorem nC_0 {B : Int → Int} {a : Int} (h : ¬ (48 ≤ B a ∧ B a ≤ 57)) : nC B a = 0 ∧ nV B a = 0 := ⟨if_neg h, if_neg h⟩
theorem nC_1 {B : Int → Int} {a : Int} (h : 48 ≤ B a ∧ B a ≤ 57) (h2 : ¬ (48 ≤ B (a + 1) ∧ B (a + 1) ≤ 57)) : nC B a = 1 ∧ nV B a = B a - 48 := ⟨(if_pos h).trans (if_neg h2), (if_pos h).trans (if_neg h2)⟩
theorem nC_2 {B : Int → Int} {a : Int} (h : 48 ≤ B a ∧ B a ≤ 57) (h2 : 48 ≤ B (a + 1) ∧ B (a + 1) ≤ 57) : nC B a = 2 ∧ nV B a = 10 * (B a - 48) + (B (a + 1) - 48) := ⟨(if_pos h).trans (if_pos h2), (if_pos h).trans (if_pos h2)⟩
theorem nC_b {B : Int → Int} {a : Int} : (0 ≤ nC B a ∧ nC B a ≤ 2) ∧ (0 ≤ nV B a ∧ nV B a ≤ 99) ∧ (nC B a = 0 → nV B a = 0) := by
  by_cases h : 48 ≤ B a ∧ B a ≤ 57
  · by_cases h2 : 48 ≤ B (a + 1) ∧ B (a + 1) ≤ 57
    · obtain ⟨q1, q2⟩ := nC_2 h h2
      rw [q1, q2]; omega
    · obtain ⟨q1, q2⟩ := nC_1 h h2
      rw [q1, q2]; omega
  · obtain ⟨q1, q2⟩ := nC_0 h
    rw [q1, q2]; omega
def lT (x : Int) : Int := if x = 116 then 0 else if x = 111 then 1 else if x = 121 then 2 else if x = 110 then 3 else if x = 117 then 4 else -1
theorem lT_b {x : Int} : -1 ≤ lT x ∧ lT x ≤ 4 := by
  unfold lT
  repeat' split
  all_goals omega
theorem lT_n {x : Int} (h1 : ¬ x = 116) (h2 : ¬ x = 111) (h3 : ¬ x = 121) (h4 : ¬ x = 110) (h5 : ¬ x = 117) : lT x = -1 := by
  unfold lT
  rw [if_neg h1, if_neg h2, if_neg h3, if_neg h4, if_neg h5]
theorem lT_y {x : Int} (h : x = 116 ∨ x = 111 ∨ x = 121 ∨ x = 110 ∨ x = 117) : ¬ lT x = -1 := by
  rcases h with h | h | h | h | h <;> rw [h] <;> decide
def a2 (B : Int → Int) (a : Int) : Int := a + 1 + nC B (a + 1)
def a3 (B : Int → Int) (a : Int) : Int := a2 B a + 1 + nC B (a2 B a + 1)
def pX (B : Int → Int) (a : Int) : Int := if lT (B a) = -1 then a else if nC B (a + 1) = 0 ∨ 20 < nV B (a + 1) then a + 1 else if B (a2 B a) = 47 then (if nC B (a2 B a + 1) = 0 ∨ nV B (a2 B a + 1) < 1 ∨ 20 < nV B (a2 B a + 1) ∨ nV B (a2 B a + 1) < nV B (a + 1) then a2 B a + 1 else -1) else a2 B a
theorem pX_1 {B : Int → Int} {a : Int} (h : lT (B a) = -1) : pX B a = a := if_pos h
theorem pX_2 {B : Int → Int} {a : Int} (h : ¬ lT (B a) = -1) (h2 : nC B (a + 1) = 0 ∨ 20 < nV B (a + 1)) : pX B a = a + 1 := (if_neg h).trans (if_pos h2)
theorem pX_3 {B : Int → Int} {a : Int} (h : ¬ lT (B a) = -1) (h2 : ¬ (nC B (a + 1) = 0 ∨ 20 < nV B (a + 1))) (h3 : ¬ B (a2 B a) = 47) : pX B a = a2 B a := (if_neg h).trans ((if_neg h2).trans (if_neg h3))
theorem pX_4 {B : Int → Int} {a : Int} (h : ¬ lT (B a) = -1) (h2 : ¬ (nC B (a + 1) = 0 ∨ 20 < nV B (a + 1))) (h3 : B (a2 B a) = 47) (h4 : nC B (a2 B a + 1) = 0 ∨ nV B (a2 B a + 1) < 1 ∨ 20 < nV B (a2 B a + 1) ∨ nV B (a2 B a + 1) < nV B (a + 1)) : pX B a = a2 B a + 1 := (if_neg h).trans ((if_neg h2).trans ((if_pos h3).trans (if_pos h4)))
theorem pX_5 {B : Int → Int} {a : Int} (h : ¬ lT (B a) = -1) (h2 : ¬ (nC B (a + 1) = 0 ∨ 20 < nV B (a + 1))) (h3 : B (a2 B a) = 47) (h4 : ¬ (nC B (a2 B a + 1) = 0 ∨ nV B (a2 B a + 1) < 1 ∨ 20 < nV B (a2 B a + 1) ∨ nV B (a2 B a + 1) < nV B (a + 1))) : pX B a = -1 := (if_neg h).trans ((if_neg h2).trans ((if_pos h3).trans (if_neg h4)))
/-! shares, in so many parts of the whole as 1 to 20 divide; the sum of each letter, and what they have in common -/
abbrev Ac : Type := (Nat → Nat) × Nat
def zW : Nat := 232792560
def sh1 (m n : Int) : Nat := zW / n.toNat * m.toNat
def acU (A : Ac) (l m n : Int) : Ac := (fun k => if k = l.toNat then A.1 k + sh1 m n else A.1 k, Nat.gcd A.2 (sh1 m n))
def acS (A : Ac) : Nat := A.1 0 + A.1 1 + A.1 2 + A.1 3 + A.1 4
def acF (A : Ac) (n : Int) : Int := if acS A = zW ∧ 0 < A.2 ∧ zW / A.2 ≤ 24 then -1 else n
def ac0 : Ac := (fun _ => 0, zW)
def pL (B : Int → Int) (n : Int) : Nat → Int → Ac → Int × Ac
  | 0, _, A => (n, A)
  | f + 1, a, A => if pX B a = -1 then (if n ≤ a3 B a then (acF (acU A (lT (B a)) (nV B (a + 1)) (nV B (a2 B a + 1))) n, acU A (lT (B a)) (nV B (a + 1)) (nV B (a2 B a + 1))) else if B (a3 B a) = 59 then pL B n f (a3 B a + 1) (acU A (lT (B a)) (nV B (a + 1)) (nV B (a2 B a + 1))) else (a3 B a, acU A (lT (B a)) (nV B (a + 1)) (nV B (a2 B a + 1)))) else (pX B a, A)
def pC (B : Int → Int) (n : Int) (f : Nat) (a : Int) (A : Ac) : Int × Ac := if n ≤ a then (acF A n, A) else if B a = 59 then pL B n f (a + 1) A else (a, A)
theorem pL_0 {B : Int → Int} {n a : Int} {A : Ac} : pL B n 0 a A = (n, A) := by rw [pL]
theorem pL_f {B : Int → Int} {n a : Int} {f : Nat} {A : Ac} (h : ¬ pX B a = -1) : pL B n (f + 1) a A = (pX B a, A) := by
  rw [pL]
  exact if_neg h
theorem pL_c {B : Int → Int} {n a : Int} {f : Nat} {A : Ac} (h : pX B a = -1) : pL B n (f + 1) a A = pC B n f (a3 B a) (acU A (lT (B a)) (nV B (a + 1)) (nV B (a2 B a + 1))) := by
  rw [pL]
  exact if_pos h
theorem pC_e {B : Int → Int} {n a : Int} {f : Nat} {A : Ac} (h : n ≤ a) : pC B n f a A = (acF A n, A) := if_pos h
theorem pC_s {B : Int → Int} {n a : Int} {f : Nat} {A : Ac} (h : ¬ n ≤ a) (h2 : ¬ B a = 59) : pC B n f a A = (a, A) := (if_neg h).trans (if_neg h2)
theorem pC_n {B : Int → Int} {n a : Int} {f : Nat} {A : Ac} (h : ¬ n ≤ a) (h2 : B a = 59) : pC B n f a A = pL B n f (a + 1) A := (if_neg h).trans (if_pos h2)
def pA (B : Int → Int) (n : Int) : Int × Ac := pL B n 60 0 ac0
def pF (B : Int → Int) (n : Int) : Int := (pA B n).1
/-! the class's side -/
def acX (row : Nat → Int64) (cm : Int64) : Ac := (fun k => if k < 5 then (row k).toInt.toNat else 0, cm.toInt.toNat)
def SB (row : Nat → Int64) (M : Int) : Prop := ∀ k : Nat, k < 5 → 0 ≤ (row k).toInt ∧ (row k).toInt ≤ M
theorem acX_0 {row : Nat → Int64} (h : ∀ j : Nat, j < 5 → row j = 0) : acX row 232792560 = ac0 ∧ SB row 0 := by
  refine ⟨Prod.ext (funext fun k => ?_) (show (232792560 : Int64).toInt.toNat = zW by decide), fun k hk => ?_⟩
  · show (if k < 5 then (row k).toInt.toNat else 0) = 0
    by_cases q : k < 5
    · rw [if_pos q, h k q]; decide
    · rw [if_neg q]
  · rw [h k hk]; decide
theorem z_lus {f : Nat → Int64} {i : Nat} {x : Int64} : vp_updL f i x i = x := if_pos rfl
theorem z_lun {f : Nat → Int64} {i j : Nat} {x : Int64} (h : j ≠ i) : vp_updL f i x j = f j := if_neg h
theorem sh1_b {m n : Int} (hn : 1 ≤ n) (h0 : 0 ≤ m) (hm : m ≤ n) : sh1 m n ≤ zW := by
  unfold sh1
  exact Nat.le_trans (Nat.mul_le_mul_left _ (show m.toNat ≤ n.toNat by omega)) (Nat.div_mul_le_self _ _)
theorem acX_step {row row2 : Nat → Int64} {cm cm2 x y w : Int64} {l : Int32} {m n M : Int} (hb : SB row M) (hM : M ≤ 13967553600) (hl : 0 ≤ l.toInt ∧ l.toInt < 5) (ew : w = row l.toNatClampNeg) (ey : y = w + x) (e2 : row2 = vp_updL row l.toNatClampNeg y) (hx : x.toInt = (sh1 m n : Int)) (hxb : sh1 m n ≤ zW) (hc : 0 ≤ cm.toInt) (hc2 : cm2.toInt = (Nat.gcd cm.toInt.natAbs x.toInt.natAbs : Int)) : acX row2 cm2 = acU (acX row cm) l.toInt m n ∧ SB row2 (M + 232792560) := by
  have hcl := z_clamp hl.1
  have hW : (zW : Int) = 232792560 := rfl
  have hr := hb l.toNatClampNeg (by omega)
  have hxb' : (sh1 m n : Int) ≤ 232792560 := by omega
  have hy : y.toInt = (row l.toNatClampNeg).toInt + x.toInt := by
    rw [ey, Jvm.Kit.i64_add (by rw [ew]; omega) (by rw [ew]; omega), ew]
  have e3 : l.toInt.toNat = l.toNatClampNeg := by omega
  refine ⟨Prod.ext (funext fun k => ?_) ?_, fun k hk => ?_⟩
  · show (if k < 5 then (row2 k).toInt.toNat else 0) = (if k = l.toInt.toNat then (if k < 5 then (row k).toInt.toNat else 0) + sh1 m n else (if k < 5 then (row k).toInt.toNat else 0))
    rw [e3]
    by_cases q : k = l.toNatClampNeg
    · rw [if_pos q, if_pos (by omega), if_pos (by omega), e2, q, z_lus]
      omega
    · rw [if_neg q, e2, z_lun q]
  · show cm2.toInt.toNat = Nat.gcd cm.toInt.toNat (sh1 m n)
    have h1 : cm.toInt.natAbs = cm.toInt.toNat := by omega
    have h2 : x.toInt.natAbs = sh1 m n := by omega
    rw [h1, h2] at hc2
    omega
  · by_cases q : k = l.toNatClampNeg
    · rw [e2, q, z_lus]; omega
    · rw [e2, z_lun q]
      have := hb k hk
      omega
/-- the sum of the first few -/
def smr (row : Nat → Int64) : Nat → Int
  | 0 => 0
  | k + 1 => smr row k + (row k).toInt
theorem smr_0 {row : Nat → Int64} : smr row 0 = 0 := by rw [smr]
theorem smr_s {row : Nat → Int64} {k : Nat} : smr row (k + 1) = smr row k + (row k).toInt := by rw [smr]
theorem smr_step {row : Nat → Int64} {sm x y : Int64} {i j : Int32} (hb : SB row 13967553600) (hi : 0 ≤ i.toInt ∧ i.toInt < 5) (hs : sm.toInt = smr row i.toNatClampNeg) (hsb : 0 ≤ sm.toInt ∧ sm.toInt ≤ 13967553600 * i.toInt) (ex : x = row i.toNatClampNeg) (ey : y = sm + x) (hj : j.toInt = i.toInt + 1) : y.toInt = smr row j.toNatClampNeg ∧ (0 ≤ y.toInt ∧ y.toInt ≤ 13967553600 * j.toInt) := by
  have c1 := z_clamp hi.1
  have c2 := z_clamp (x := j) (by omega)
  have e : j.toNatClampNeg = i.toNatClampNeg + 1 := by omega
  have hr := hb i.toNatClampNeg (by omega)
  have hy : y.toInt = sm.toInt + (row i.toNatClampNeg).toInt := by
    rw [ey, Jvm.Kit.i64_add (by rw [ex]; omega) (by rw [ex]; omega), ex]
  rw [e, smr_s, ← hs]
  omega
theorem smr_5 {row : Nat → Int64} {cm : Int64} {sm : Int64} {j : Int32} (hb : SB row 13967553600) (hj : j.toInt = 5) (hs : sm.toInt = smr row j.toNatClampNeg) : sm.toInt = (acS (acX row cm) : Int) := by
  have c2 := z_clamp (x := j) (by omega)
  have e : j.toNatClampNeg = 5 := by omega
  rw [hs, e, smr_s, smr_s, smr_s, smr_s, smr_s, smr_0]
  have q : acS (acX row cm) = (row 0).toInt.toNat + (row 1).toInt.toNat + (row 2).toInt.toNat + (row 3).toInt.toNat + (row 4).toInt.toNat := rfl
  have h0 := hb 0 (by omega)
  have h1 := hb 1 (by omega)
  have h2 := hb 2 (by omega)
  have h3 := hb 3 (by omega)
  have h4 := hb 4 (by omega)
  omega
theorem acF_y {row : Nat → Int64} {cm q : Int64} {sm n : Int} (hs : sm = (acS (acX row cm) : Int)) (h1 : sm = 232792560) (h2 : 0 < cm.toInt) (hq : q.toInt = 232792560 / cm.toInt) (h3 : q.toInt ≤ 24) : acF (acX row cm) n = -1 := by
  refine if_pos ⟨?_, ?_, ?_⟩
  · have hW : (zW : Int) = 232792560 := rfl
    omega
  · show 0 < cm.toInt.toNat
    omega
  · show zW / cm.toInt.toNat ≤ 24
    have e : ((zW / cm.toInt.toNat : Nat) : Int) = 232792560 / cm.toInt := by
      rw [Int.natCast_ediv, Int.toNat_of_nonneg (by omega)]
      rfl
    omega
theorem acF_n {row : Nat → Int64} {cm : Int64} {sm n : Int} (hs : sm = (acS (acX row cm) : Int)) (h : ¬ sm = 232792560 ∨ ¬ 0 < cm.toInt ∨ (0 < cm.toInt ∧ 24 < 232792560 / cm.toInt)) : acF (acX row cm) n = n := by
  refine if_neg (fun q => ?_)
  obtain ⟨q1, q2, q3⟩ := q
  have hW : (zW : Int) = 232792560 := rfl
  have q2' : 0 < cm.toInt.toNat := q2
  have q3' : zW / cm.toInt.toNat ≤ 24 := q3
  have e : ((zW / cm.toInt.toNat : Nat) : Int) = 232792560 / cm.toInt := by
    rw [Int.natCast_ediv, Int.toNat_of_nonneg (by omega)]
    rfl
  omega
/-! the class's greatest common divisor: each step but the first halves the product, so 200 steps are enough -/
theorem cd_step {b s st : Nat} (hs : 0 < s) (h0 : st = 0 → b * s ≤ 2 ^ 124) (hlt : st = 0 ∨ s < b) (hp : b * s * 2 ^ st ≤ 2 ^ 125) : s * (b % s) * 2 ^ (st + 1) ≤ 2 ^ 125 := by
  have hm : b % s < s := Nat.mod_lt _ hs
  rcases hlt with h | h
  · subst h
    have h1 := h0 rfl
    have h2 : s * (b % s) ≤ b * s := by
      rw [Nat.mul_comm b s]
      exact Nat.mul_le_mul_left _ (Nat.mod_le _ _)
    have h3 : s * (b % s) * 2 ^ (0 + 1) ≤ b * s * 2 := Nat.mul_le_mul h2 (by decide)
    omega
  · have h1 : 2 * (b % s) ≤ b := by
      have e := Nat.div_add_mod b s
      have hd : 1 ≤ b / s := Nat.div_pos (Nat.le_of_lt h) hs
      have h4 : s * 1 ≤ s * (b / s) := Nat.mul_le_mul_left _ hd
      omega
    have h2 : s * (b % s) * 2 ^ (st + 1) = s * (2 * (b % s)) * 2 ^ st := by
      rw [Nat.pow_succ, Nat.mul_comm (2 ^ st) 2, ← Nat.mul_assoc, Nat.mul_assoc s (b % s) 2, Nat.mul_comm (b % s) 2]
    rw [h2]
    refine Nat.le_trans (Nat.mul_le_mul_right _ (Nat.mul_le_mul_left _ h1)) ?_
    rw [Nat.mul_comm s b]
    exact hp
theorem cd_end {b s st : Nat} (hst : 200 ≤ st) (hlt : s < b) (hp : b * s * 2 ^ st ≤ 2 ^ 125) : s = 0 := by
  rcases Nat.eq_zero_or_pos s with h | h
  · exact h
  · exfalso
    have h1 : 1 * 1 ≤ b * s := Nat.mul_le_mul (by omega) h
    have h2 : 2 ^ 200 ≤ 2 ^ st := Nat.pow_le_pow_right (by decide) hst
    have h3 : 1 * 1 * 2 ^ 200 ≤ b * s * 2 ^ st := Nat.mul_le_mul h1 h2
    have h4 : (2 : Nat) ^ 125 < 1 * 1 * 2 ^ 200 := by decide
    omega
/-- what the class's loop keeps: the divisor, the halving, the order -/
def CD (x0 y0 bg sm : Int) (st : Int) : Prop := (0 ≤ bg ∧ bg < 4611686018427387904) ∧ (0 ≤ sm ∧ sm < 4611686018427387904) ∧ Nat.gcd bg.natAbs sm.natAbs = Nat.gcd x0.natAbs y0.natAbs ∧ (st = 0 ∨ sm < bg) ∧ bg.natAbs * sm.natAbs * 2 ^ st.toNat ≤ 2 ^ 125 ∧ (st = 0 → bg.natAbs * sm.natAbs ≤ 2 ^ 124)
theorem CD_0 {x0 y0 bg sm : Int} (h1 : bg = (x0.natAbs : Int)) (h2 : sm = (y0.natAbs : Int)) (hx : -4611686018427387904 < x0 ∧ x0 < 4611686018427387904) (hy : -4611686018427387904 < y0 ∧ y0 < 4611686018427387904) {st : Int} (hst : st = 0) : CD x0 y0 bg sm st := by
  have e1 : bg.natAbs = x0.natAbs := by omega
  have e2 : sm.natAbs = y0.natAbs := by omega
  have hm : bg.natAbs * sm.natAbs ≤ 2 ^ 62 * 2 ^ 62 := Nat.mul_le_mul (by omega) (by omega)
  have hp : (2 : Nat) ^ 62 * 2 ^ 62 = 2 ^ 124 := by decide
  have hq : (2 : Nat) ^ 124 ≤ 2 ^ 125 := by decide
  subst hst
  refine ⟨by omega, by omega, by rw [e1, e2], Or.inl rfl, ?_, fun _ => by omega⟩
  rw [Int.toNat_zero, Nat.pow_zero, Nat.mul_one]
  omega
theorem CD_step {x0 y0 bg sm r st st2 : Int} (h : CD x0 y0 bg sm st) (h0 : 0 ≤ st) (hs : ¬ sm = 0) (hr : r = bg.tmod sm) (hst : st2 = st + 1) : CD x0 y0 sm r st2 := by
  obtain ⟨hb, hsm, hg, hlt, hp, hq⟩ := h
  obtain ⟨g1, g2, g3⟩ := zg_step hb.1 (by omega) hr
  have e : r.natAbs = bg.natAbs % sm.natAbs := by
    rw [hr, Int.natAbs_tmod]
  have est : st2.toNat = st.toNat + 1 := by omega
  refine ⟨hsm, by omega, g1.trans hg, Or.inr g3, ?_, fun q => by omega⟩
  rw [e, est]
  refine cd_step (by omega) (fun q => hq (by omega)) ?_ hp
  rcases hlt with q | q
  · exact Or.inl (by omega)
  · exact Or.inr (by omega)
theorem CD_end {x0 y0 bg sm st : Int} (h : CD x0 y0 bg sm st) (hd : sm = 0 ∨ 200 ≤ st) : bg = (Nat.gcd x0.natAbs y0.natAbs : Int) := by
  obtain ⟨hb, hsm, hg, hlt, hp, hq⟩ := h
  have h0 : sm.natAbs = 0 := by
    rcases hd with q | q
    · omega
    · refine cd_end (b := bg.natAbs) (st := st.toNat) (by omega) ?_ hp
      omega
  rw [h0, Nat.gcd_zero_right] at hg
  omega
theorem z_labs2 {x a : Int64} (e : x = if 0 < a then a else -a) (h : -4611686018427387904 < a.toInt ∧ a.toInt < 4611686018427387904) : x.toInt = (a.toInt.natAbs : Int) := by
  have q : (0 : Int64).toInt = 0 := by decide
  by_cases c : (0 : Int64) < a
  · rw [if_pos c] at e
    rw [Int64.lt_iff_toInt_lt] at c
    rw [e]; omega
  · rw [if_neg c] at e
    rw [Int64.lt_iff_toInt_lt] at c
    rw [e, Jvm.Kit.i64_neg (by omega)]; omega
theorem sh1_i {x m n : Int} (h : x = 232792560 / n * m) (hn : 1 ≤ n) (hm : 0 ≤ m) : x = (sh1 m n : Int) := by
  unfold sh1
  rw [Int.natCast_mul, Int.natCast_ediv, Int.toNat_of_nonneg hm, Int.toNat_of_nonneg (by omega), h]
  rfl
theorem pA_0 {B : Int → Int} {n a : Int} {f : Nat} {A : Ac} (hf : f = 60) (ha : a = 0) (hA : A = ac0) : pL B n f a A = pA B n := by
  subst hf ha hA
  rfl
theorem pL_fail {B : Int → Int} {n a : Int} {f : Nat} {A : Ac} {T : Int × Ac} (hf : 0 < f) (h : ¬ pX B a = -1) (hr : pL B n f a A = T) : T = (pX B a, A) := by
  obtain ⟨g, rfl⟩ : ∃ g, f = g + 1 := ⟨f - 1, by omega⟩
  rw [pL_f h] at hr
  exact hr.symm
theorem pL_cont {B : Int → Int} {n a : Int} {f g : Nat} {A : Ac} {T : Int × Ac} (hf : f = g + 1) (h : pX B a = -1) (hr : pL B n f a A = T) : pC B n g (a3 B a) (acU A (lT (B a)) (nV B (a + 1)) (nV B (a2 B a + 1))) = T := by
  subst hf
  rw [pL_c h] at hr
  exact hr
theorem bX_tr {n : Int32} {t : Nat → Int32} {f : Nat → Int32} (h : ∀ i : Nat, i < 60 → f i = t i) : bX n f = bX n t := funext fun i => by
  unfold bX
  by_cases q : 0 ≤ i ∧ i < n.toInt ∧ i < 60
  · rw [if_pos q, if_pos q, h _ (by omega)]
  · rw [if_neg q, if_neg q]
theorem zg_bnd {c x : Int} (h : 0 ≤ c ∧ c ≤ 232792560) (hx : 0 ≤ x ∧ x ≤ 232792560) : Nat.gcd c.natAbs x.natAbs ≤ 232792560 := by
  rcases Nat.eq_zero_or_pos c.natAbs with q | q
  · rw [q, Nat.gcd_zero_left]; omega
  · exact Nat.le_trans (Nat.le_of_dvd q (Nat.gcd_dvd_left _ _)) (by omega)
/-! what all shares have in common divides each letter's sum; a reading without fault ends at the shares -/
def AD (A : Ac) : Prop := A.2 ∣ zW ∧ ∀ k : Nat, A.2 ∣ A.1 k
theorem AD_0 : AD ac0 := ⟨Nat.dvd_refl _, fun _ => Nat.dvd_zero _⟩
theorem AD_u {A : Ac} {l m n : Int} (h : AD A) : AD (acU A l m n) := by
  have d1 : Nat.gcd A.2 (sh1 m n) ∣ A.2 := Nat.gcd_dvd_left _ _
  have d2 : Nat.gcd A.2 (sh1 m n) ∣ sh1 m n := Nat.gcd_dvd_right _ _
  refine ⟨Nat.dvd_trans d1 h.1, fun k => ?_⟩
  show Nat.gcd A.2 (sh1 m n) ∣ (if k = l.toNat then A.1 k + sh1 m n else A.1 k)
  by_cases q : k = l.toNat
  · rw [if_pos q]
    exact Nat.dvd_add (Nat.dvd_trans d1 (h.2 k)) d2
  · rw [if_neg q]
    exact Nat.dvd_trans d1 (h.2 k)
theorem pL_AD {B : Int → Int} {n : Int} : ∀ {f : Nat} {a : Int} {A : Ac}, AD A → AD (pL B n f a A).2
  | 0, a, A, h => by rw [pL_0]; exact h
  | f + 1, a, A, h => by
    by_cases q : pX B a = -1
    · rw [pL_c q]
      by_cases q2 : n ≤ a3 B a
      · rw [pC_e q2]; exact AD_u h
      · by_cases q3 : B (a3 B a) = 59
        · rw [pC_n q2 q3]; exact pL_AD (f := f) (AD_u h)
        · rw [pC_s q2 q3]; exact AD_u h
    · rw [pL_f q]; exact h
theorem a3_b {B : Int → Int} {a : Int} : a + 2 ≤ a3 B a := by
  have h1 := nC_b (B := B) (a := a + 1)
  have h2 := nC_b (B := B) (a := a2 B a + 1)
  unfold a3
  unfold a2 at h2 ⊢
  omega
theorem pL_ok {B : Int → Int} {n : Int} (hn : 0 ≤ n) : ∀ {f : Nat} {a : Int} {A : Ac}, 0 ≤ a → (pL B n f a A).1 = -1 → acS (pL B n f a A).2 = zW ∧ 0 < (pL B n f a A).2.2 ∧ zW / (pL B n f a A).2.2 ≤ 24
  | 0, a, A, _, h => by
    rw [pL_0] at h
    exact absurd (show n = -1 from h) (by omega)
  | f + 1, a, A, ha, h => by
    have hb := a3_b (B := B) (a := a)
    by_cases q : pX B a = -1
    · rw [pL_c q] at h ⊢
      by_cases q2 : n ≤ a3 B a
      · rw [pC_e q2] at h ⊢
        by_cases q4 : acS (acU A (lT (B a)) (nV B (a + 1)) (nV B (a2 B a + 1))) = zW ∧ 0 < (acU A (lT (B a)) (nV B (a + 1)) (nV B (a2 B a + 1))).2 ∧ zW / (acU A (lT (B a)) (nV B (a + 1)) (nV B (a2 B a + 1))).2 ≤ 24
        · exact q4
        · exact absurd ((show acF _ n = n from if_neg q4).symm.trans h) (by omega)
      · by_cases q3 : B (a3 B a) = 59
        · rw [pC_n q2 q3] at h ⊢
          exact pL_ok hn (f := f) (by omega) h
        · rw [pC_s q2 q3] at h
          exact absurd (show a3 B a = -1 from h) (by omega)
    · rw [pL_f q] at h
      exact absurd h q
/-! the lots: in how many parts, how many of them say yes -/
def lW : Nat := 5587021440
def lH (A : Ac) (ot : Int) (j : Nat) : Nat := A.1 j * 24 + (A.1 2 * 24 + A.1 4 * ot.toNat)
def lG (A : Ac) (ot : Int) : Nat := Nat.gcd lW (Nat.gcd (lH A ot 0) (lH A ot 1))
def lU (A : Ac) (ot : Int) : Int := ((lW / lG A ot : Nat) : Int)
def lY (A : Ac) (ot : Int) (j : Nat) : Int := ((lH A ot j / lG A ot : Nat) : Int)
theorem lH_dvd {A : Ac} {ot : Int} {j : Nat} (h : AD A) : A.2 ∣ lH A ot j := Nat.dvd_add (Nat.dvd_mul_right_of_dvd (h.2 j) _) (Nat.dvd_add (Nat.dvd_mul_right_of_dvd (h.2 2) _) (Nat.dvd_mul_right_of_dvd (h.2 4) _))
theorem lG_dvd {A : Ac} {ot : Int} (h : AD A) : A.2 ∣ lG A ot := Nat.dvd_gcd (Nat.dvd_trans h.1 ⟨24, by decide⟩) (Nat.dvd_gcd (lH_dvd h) (lH_dvd h))
theorem lG_pos {A : Ac} {ot : Int} : 0 < lG A ot := Nat.gcd_pos_of_pos_left _ (by decide)
/-- with no fault the unit is 576 at most, and the others are no more than 2 units -/
theorem lU_b {A : Ac} {ot : Int} (h : AD A) (h0 : 0 < A.2) (h2 : zW / A.2 ≤ 24) : 1 ≤ lU A ot ∧ lU A ot ≤ 576 := by
  have d := Nat.le_of_dvd lG_pos (lG_dvd (ot := ot) h)
  have e1 : lW / lG A ot ≤ lW / A.2 := Nat.div_le_div_left d h0
  obtain ⟨c, hc⟩ := h.1
  have e2 : zW / A.2 = c := by rw [hc]; exact Nat.mul_div_cancel_left _ h0
  have e3 : lW / A.2 = c * 24 := by
    have : lW = A.2 * (c * 24) := by rw [← Nat.mul_assoc, ← hc]; decide
    rw [this]; exact Nat.mul_div_cancel_left _ h0
  have e4 : 1 ≤ lW / lG A ot := Nat.div_pos (Nat.le_of_dvd (by decide) (Nat.gcd_dvd_left _ _)) lG_pos
  unfold lU
  omega
/-- the same lots out of shares in lowest parts -/
theorem lots_c {c b y1 y0 : Nat} (hc : 0 < c) : c * b / Nat.gcd (c * b) (Nat.gcd (c * y1) (c * y0)) = b / Nat.gcd b (Nat.gcd y1 y0) ∧ c * y1 / Nat.gcd (c * b) (Nat.gcd (c * y1) (c * y0)) = y1 / Nat.gcd b (Nat.gcd y1 y0) ∧ c * y0 / Nat.gcd (c * b) (Nat.gcd (c * y1) (c * y0)) = y0 / Nat.gcd b (Nat.gcd y1 y0) := by
  rw [Nat.gcd_mul_left, Nat.gcd_mul_left]
  exact ⟨Nat.mul_div_mul_left _ _ hc, Nat.mul_div_mul_left _ _ hc, Nat.mul_div_mul_left _ _ hc⟩
/-- a fraction in lowest terms, whatever both are multiplied by -/
theorem frac_c {k a b : Nat} (hk : 0 < k) : k * a / Nat.gcd (k * a) (k * b) = a / Nat.gcd a b ∧ k * b / Nat.gcd (k * a) (k * b) = b / Nat.gcd a b := by
  rw [Nat.gcd_mul_left]
  exact ⟨Nat.mul_div_mul_left _ _ hk, Nat.mul_div_mul_left _ _ hk⟩
theorem lcm_c {b g h p q : Nat} (hb : 0 < b) (hp : b = g * p) (hq : b = h * q) : Nat.lcm p q = b / Nat.gcd g h := by
  have hg : 0 < g := by
    rcases Nat.eq_zero_or_pos g with z | z
    · rw [z, Nat.zero_mul] at hp
      omega
    · exact z
  obtain ⟨d, hd⟩ : ∃ d, d = Nat.gcd g h := ⟨_, rfl⟩
  have dp : 0 < d := by rw [hd]; exact Nat.gcd_pos_of_pos_left _ hg
  obtain ⟨m, hm⟩ : d ∣ g := by rw [hd]; exact Nat.gcd_dvd_left _ _
  obtain ⟨n, hn⟩ : d ∣ h := by rw [hd]; exact Nat.gcd_dvd_right _ _
  have e1 : b = d * (m * p) := by rw [hp, ← Nat.mul_assoc, ← hm]
  have e2 : b = d * (n * q) := by rw [hq, ← Nat.mul_assoc, ← hn]
  have k1 : b / d = m * p := Nat.div_eq_of_eq_mul_right dp e1
  have k2 : b / d = n * q := Nat.div_eq_of_eq_mul_right dp e2
  rw [← hd]
  apply Nat.dvd_antisymm
  · refine Nat.lcm_dvd ?_ ?_
    · rw [k1]; exact Nat.dvd_mul_left _ _
    · rw [k2]; exact Nat.dvd_mul_left _ _
  · obtain ⟨u, hu⟩ := Nat.dvd_lcm_left p q
    obtain ⟨v, hv⟩ := Nat.dvd_lcm_right p q
    have w1 : b ∣ g * Nat.lcm p q := ⟨u, by rw [hu, ← Nat.mul_assoc, ← hp]⟩
    have w0 : b ∣ h * Nat.lcm p q := ⟨v, by rw [hv, ← Nat.mul_assoc, ← hq]⟩
    have w2 := Nat.dvd_gcd w1 w0
    rw [Nat.gcd_mul_right, ← hd] at w2
    have e3 : b = d * (b / d) := by rw [k1]; exact e1
    rw [e3] at w2
    have w3 := Nat.dvd_of_mul_dvd_mul_left dp w2
    exact w3
/-- the unit: least common multiple of both fractions' lower parts -/
theorem unit_c {b y1 y0 : Nat} (hb : 0 < b) : b / Nat.gcd y1 b / Nat.gcd (b / Nat.gcd y1 b) (b / Nat.gcd y0 b) * (b / Nat.gcd y0 b) = b / Nat.gcd b (Nat.gcd y1 y0) := by
  have e : Nat.gcd b (Nat.gcd y1 y0) = Nat.gcd (Nat.gcd y1 b) (Nat.gcd y0 b) := by
    apply Nat.dvd_antisymm
    · exact Nat.dvd_gcd (Nat.dvd_gcd (Nat.dvd_trans (Nat.gcd_dvd_right _ _) (Nat.gcd_dvd_left _ _)) (Nat.gcd_dvd_left _ _)) (Nat.dvd_gcd (Nat.dvd_trans (Nat.gcd_dvd_right _ _) (Nat.gcd_dvd_right _ _)) (Nat.gcd_dvd_left _ _))
    · exact Nat.dvd_gcd (Nat.dvd_trans (Nat.gcd_dvd_left _ _) (Nat.gcd_dvd_right _ _)) (Nat.dvd_gcd (Nat.dvd_trans (Nat.gcd_dvd_left _ _) (Nat.gcd_dvd_left _ _)) (Nat.dvd_trans (Nat.gcd_dvd_right _ _) (Nat.gcd_dvd_left _ _)))
  have h1 := (Nat.mul_div_cancel' (Nat.gcd_dvd_right y1 b)).symm
  have h0 := (Nat.mul_div_cancel' (Nat.gcd_dvd_right y0 b)).symm
  rw [e, ← lcm_c hb h1 h0, Nat.lcm, Nat.mul_comm (b / Nat.gcd y1 b) (b / Nat.gcd y0 b), Nat.mul_div_assoc _ (Nat.gcd_dvd_left _ _), Nat.mul_comm]
theorem acX_at {row : Nat → Int64} {cm : Int64} {M : Int} {k : Nat} (hb : SB row M) (hk : k < 5) : (((acX row cm).1 k : Nat) : Int) = (row k).toInt := by
  show (((if k < 5 then (row k).toInt.toNat else 0 : Nat)) : Int) = _
  rw [if_pos hk]
  exact Int.toNat_of_nonneg (hb k hk).1
theorem SB_w {row : Nat → Int64} {cm : Int64} {M : Int} (hb : SB row M) (hS : acS (acX row cm) = zW) : SB row 232792560 := by
  have q : acS (acX row cm) = (row 0).toInt.toNat + (row 1).toInt.toNat + (row 2).toInt.toNat + (row 3).toInt.toNat + (row 4).toInt.toNat := rfl
  have hW : zW = 232792560 := rfl
  intro k hk
  have h := hb k hk
  have e : k = 0 ∨ k = 1 ∨ k = 2 ∨ k = 3 ∨ k = 4 := by omega
  refine ⟨h.1, ?_⟩
  rcases e with e | e | e | e | e <;> subst e <;> omega
theorem lH_i {A : Ac} {ot x0 x2 x4 r : Int} {j : Nat} (h0 : x0 = (A.1 j : Int)) (h2 : x2 = (A.1 2 : Int)) (h4 : x4 = (A.1 4 : Int)) (hv : 0 ≤ ot) (hr : r = x0 * 24 + (x2 * 24 + x4 * ot)) : r = (lH A ot j : Int) := by
  unfold lH
  rw [Int.natCast_add, Int.natCast_add, Int.natCast_mul, Int.natCast_mul, Int.natCast_mul, Int.toNat_of_nonneg hv, ← h0, ← h2, ← h4, hr]
  rfl
theorem lH_b {A : Ac} {ot : Int} {j : Nat} (hS : acS A = zW) (hv : 0 ≤ ot ∧ ot ≤ 24) (hj : j = 0 ∨ j = 1) : lH A ot j ≤ lW := by
  have e : acS A = A.1 0 + A.1 1 + A.1 2 + A.1 3 + A.1 4 := rfl
  have hW : zW = 232792560 := rfl
  have hL : lW = 5587021440 := rfl
  have h1 : A.1 4 * ot.toNat ≤ A.1 4 * 24 := Nat.mul_le_mul_left _ (by omega)
  unfold lH
  rcases hj with q | q <;> subst q <;> omega
theorem lY_b {A : Ac} {ot : Int} {j : Nat} (h : AD A) (h0 : 0 < A.2) (h2 : zW / A.2 ≤ 24) (hS : acS A = zW) (hv : 0 ≤ ot ∧ ot ≤ 24) (hj : j = 0 ∨ j = 1) : 0 ≤ lY A ot j ∧ lY A ot j ≤ lU A ot := by
  have e := Nat.div_le_div_right (c := lG A ot) (lH_b hS hv hj)
  unfold lY lU
  exact ⟨Int.natCast_nonneg _, Int.ofNat_le.mpr e⟩
theorem z_gle {a b M : Nat} (ha : a ≤ M) (hb : b ≤ M) : Nat.gcd a b ≤ M := by
  rcases Nat.eq_zero_or_pos a with q | q
  · rw [q, Nat.gcd_zero_left]; exact hb
  · exact Nat.le_trans (Nat.le_of_dvd q (Nat.gcd_dvd_left _ _)) ha
theorem pX_b {B : Int → Int} {a : Int} (ha : 0 ≤ a) : -1 ≤ pX B a ∧ pX B a ≤ a + 4 := by
  have h1 := nC_b (B := B) (a := a + 1)
  unfold pX a2
  repeat' split
  all_goals omega
theorem pL_bd {B : Int → Int} {n : Int} : ∀ {f : Nat} {a : Int} {A : Ac}, 0 ≤ a → a ≤ n → -1 ≤ (pL B n f a A).1 ∧ (pL B n f a A).1 ≤ n + 4
  | 0, a, A, h, h2 => by
    rw [pL_0]
    show -1 ≤ n ∧ n ≤ n + 4
    omega
  | f + 1, a, A, h, h2 => by
    have hb := a3_b (B := B) (a := a)
    have hp := pX_b (B := B) h
    by_cases q : pX B a = -1
    · rw [pL_c q]
      by_cases q2 : n ≤ a3 B a
      · rw [pC_e q2]
        show -1 ≤ acF _ n ∧ acF _ n ≤ n + 4
        unfold acF
        split <;> omega
      · by_cases q3 : B (a3 B a) = 59
        · rw [pC_n q2 q3]
          exact pL_bd (f := f) (by omega) (by omega)
        · rw [pC_s q2 q3]
          show -1 ≤ a3 B a ∧ a3 B a ≤ n + 4
          omega
    · rw [pL_f q]
      show -1 ≤ pX B a ∧ pX B a ≤ n + 4
      omega
