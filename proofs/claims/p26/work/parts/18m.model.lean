/-! the reference: what holds of its state -/
def M4 (f : Nat → Int32) : Prop := ∀ d : Nat, d < 4 → 0 ≤ (f d).toInt ∧ (f d).toInt ≤ 60
def MP (n : Int32) (f g y : Nat → Int32) : Prop := P6 n f g ∧ ∀ i : Nat, (i : Int) < n.toInt → 0 ≤ (y i).toInt ∧ (y i).toInt ≤ 1
/-- the shares that were read, in parts of the whole: as the class has them, but for a factor -/
def LK (A : Ac) (wh tr op ye an : Int32) : Prop := AD A ∧ 0 < A.2 ∧ acS A = zW ∧ zW / A.2 ≤ 24 ∧ (A.2 : Int) * wh.toInt = (zW : Int) ∧ (A.1 0 : Int) = (A.2 : Int) * tr.toInt ∧ (A.1 1 : Int) = (A.2 : Int) * op.toInt ∧ (A.1 2 : Int) = (A.2 : Int) * ye.toInt ∧ (A.1 4 : Int) = (A.2 : Int) * an.toInt
/-- one design as it was read: the whole 1 to 480; no fault: all shares are at most the whole together -/
def MS (F : Int × Ac) (rd fa wh tr op ye an : Int32) : Prop := (0 ≤ wh.toInt ∧ wh.toInt ≤ 480) ∧ (0 ≤ tr.toInt ∧ tr.toInt ≤ 10000) ∧ (0 ≤ op.toInt ∧ op.toInt ≤ 10000) ∧ (0 ≤ ye.toInt ∧ ye.toInt ≤ 10000) ∧ (0 ≤ an.toInt ∧ an.toInt ≤ 10000) ∧ (¬ rd = 0 → 1 ≤ wh.toInt ∧ (fa.toInt = -1 → wh.toInt ≤ 24 ∧ tr.toInt + op.toInt + ye.toInt + an.toInt ≤ wh.toInt) ∧ fa.toInt = F.1 ∧ (fa.toInt = -1 → LK F.2 wh tr op ye an))
def MD (F : Nat → Int × Ac) (rd fa wh tr op ye an : Nat → Int32) : Prop := ∀ d : Nat, d < 4 → MS (F d) (rd d) (fa d) (wh d) (tr d) (op d) (ye d) (an d)
def MInv (z : ZS) : Prop := MP (z.1 22) (z.2.2.1 23) (z.2.2.1 24) (z.2.2.1 25) ∧ (0 ≤ (z.1 19).toInt ∧ (z.1 19).toInt ≤ 399) ∧ (0 ≤ (z.1 11).toInt ∧ (z.1 11).toInt ≤ 24) ∧ M4 (z.2.2.1 2) ∧ M4 (z.2.2.1 38) ∧ MD (FR (z.2.2.1 2) (z.2.2.1 3)) (z.2.2.1 4) (z.2.2.1 5) (z.2.2.1 6) (z.2.2.1 7) (z.2.2.1 8) (z.2.2.1 9) (z.2.2.1 10)
def yI (tr op ye an ot ha : Int32) : Int := 24 * ((if ha.toInt = 1 then tr.toInt else op.toInt) + ye.toInt) + an.toInt * ot.toInt
/-! the greatest common divisor -/
theorem is_b {y g d b : Int} {G : Nat} (hy : y ≠ 0) (hG : 1 ≤ G) (hdv : G ∣ y.natAbs) (hg : g = (G : Int)) (hd : d = if y < 0 then -g else g) (hb : b = y.tdiv d) : b = ((y.natAbs / G : Nat) : Int) ∧ 1 ≤ b ∧ b ≤ (y.natAbs : Int) := by
  have key : y.tdiv d = ((y.natAbs / G : Nat) : Int) := by
    subst hg
    by_cases h : y < 0
    · rw [if_pos h] at hd
      obtain ⟨m, hm⟩ : ∃ m : Nat, y = -(m : Int) := ⟨y.natAbs, by omega⟩
      rw [hd, hm, Int.neg_tdiv_neg, Int.natAbs_neg, Int.natAbs_natCast]
      rfl
    · rw [if_neg h] at hd
      obtain ⟨m, hm⟩ : ∃ m : Nat, y = (m : Int) := ⟨y.natAbs, by omega⟩
      rw [hd, hm, Int.natAbs_natCast]
      rfl
  have h1 : 1 ≤ y.natAbs / G := Nat.div_pos (Nat.le_of_dvd (by omega) hdv) hG
  have h2 : y.natAbs / G ≤ y.natAbs := Nat.div_le_self _ _
  rw [key] at hb
  exact ⟨hb, by omega, by omega⟩
theorem is_a {x y g d a : Int} {G : Nat} (hG : 1 ≤ G) (hdv : G ∣ x.natAbs) (hg : g = (G : Int)) (hd : d = if y < 0 then -g else g) (ha : a = x.tdiv d) : (a.natAbs : Int) ≤ (x.natAbs : Int) ∧ (0 ≤ x → 0 < y → 0 ≤ a) ∧ (0 < x → 0 < y → 1 ≤ a) := by
  have hab : a.natAbs ≤ x.natAbs := by rw [ha, Int.natAbs_tdiv]; exact Nat.div_le_self _ _
  have key : 0 ≤ x → 0 < y → a = ((x.natAbs / G : Nat) : Int) := by
    intro h1 h2
    rw [if_neg (by omega)] at hd
    obtain ⟨m, hm⟩ : ∃ m : Nat, x = (m : Int) := ⟨x.natAbs, by omega⟩
    rw [ha, hd, hg, hm, Int.natAbs_natCast]
    rfl
  refine ⟨by omega, fun h1 h2 => by rw [key h1 h2]; exact Int.natCast_nonneg _, fun h1 h2 => ?_⟩
  have h3 : 1 ≤ x.natAbs / G := Nat.div_pos (Nat.le_of_dvd (by omega) hdv) hG
  rw [key (by omega) h2]
  omega
theorem is_all {x y g d a b : Int} (hy : y ≠ 0) (hg : g = (Nat.gcd x.natAbs y.natAbs : Int)) (hd : d = if y < 0 then -(Nat.gcd x.natAbs y.natAbs : Int) else (Nat.gcd x.natAbs y.natAbs : Int)) (ha : a = x.tdiv d) (hb : b = y.tdiv d) : (1 ≤ b ∧ b ≤ (y.natAbs : Int)) ∧ ((a.natAbs : Int) ≤ (x.natAbs : Int)) ∧ ((0 ≤ x → 0 < y → 0 ≤ a) ∧ (0 < x → 0 < y → 1 ≤ a)) ∧ (b = ((y.natAbs / Nat.gcd x.natAbs y.natAbs : Nat) : Int)) ∧ (a = x.tdiv (if y < 0 then -(Nat.gcd x.natAbs y.natAbs : Int) else (Nat.gcd x.natAbs y.natAbs : Int))) ∧ (0 ≤ x → 0 < y → a = frT x y 0 ∧ b = frT x y 1) := by
  have hG : 1 ≤ Nat.gcd x.natAbs y.natAbs := zg_pos hy
  obtain ⟨b1, b2, b3⟩ := is_b hy hG (Nat.gcd_dvd_right _ _) rfl hd hb
  obtain ⟨a1, a2, a3⟩ := is_a (y := y) hG (Nat.gcd_dvd_left _ _) rfl hd ha
  exact ⟨⟨b2, b3⟩, a1, ⟨a2, a3⟩, b1, by rw [ha, hd], fun q1 q2 => is_fr q1 q2 b1 (by rw [ha, hd])⟩
/-! parts read so far: fifteen at most, shares m by n with 1 ≤ n ≤ 20, 0 ≤ m ≤ n -/
def PT (n : Int32) (t b : Nat → Int32) : Prop := 0 ≤ n.toInt ∧ n.toInt ≤ 15 ∧ ∀ i : Nat, (i : Int) < n.toInt → 0 ≤ (t i).toInt ∧ (t i).toInt ≤ (b i).toInt ∧ 1 ≤ (b i).toInt ∧ (b i).toInt ≤ 20
theorem PT_step {n x tv bv : Int32} {t b t2 b2 : Nat → Int32} (h : PT n t b) (hn : n.toInt < 15) (ex : x = n + 1) (et : t2 = upd t n.toNatClampNeg tv) (eb : b2 = upd b n.toNatClampNeg bv) (hv : 0 ≤ tv.toInt ∧ tv.toInt ≤ bv.toInt ∧ 1 ≤ bv.toInt ∧ bv.toInt ≤ 20) : PT x t2 b2 := by
  obtain ⟨h0, h1, h2⟩ := h
  have hx : x.toInt = n.toInt + 1 := z_add ex rfl (show (1 : Int32).toInt = 1 by decide) (by omega)
  have hc := z_clamp h0
  refine ⟨by omega, by omega, fun i hi => ?_⟩
  by_cases q : i = n.toNatClampNeg
  · rw [et, eb, q, pk_us, pk_us]; exact hv
  · rw [et, eb, pk_un q, pk_un q]; exact h2 i (by omega)
theorem PT_at {n i : Int32} {t b : Nat → Int32} (h : PT n t b) (h0 : 0 ≤ i.toInt) (hi : i.toInt < n.toInt) : 0 ≤ (t i.toNatClampNeg).toInt ∧ (t i.toNatClampNeg).toInt ≤ (b i.toNatClampNeg).toInt ∧ 1 ≤ (b i.toNatClampNeg).toInt ∧ (b i.toNatClampNeg).toInt ≤ 20 := h.2.2 _ (by rw [z_clamp h0]; exact hi)
theorem M4_at {f : Nat → Int32} {d : Int32} (h : M4 f) (hd : 0 ≤ d.toInt ∧ d.toInt < 4) : 0 ≤ (f d.toNatClampNeg).toInt ∧ (f d.toNatClampNeg).toInt ≤ 60 := h _ (z_cl4 hd)
theorem M4_upd {f f2 : Nat → Int32} {d v : Int32} (h : M4 f) (e : f2 = upd f d.toNatClampNeg v) (hv : 0 ≤ v.toInt ∧ v.toInt ≤ 60) : M4 f2 := fun k hk => by
  by_cases q : k = d.toNatClampNeg
  · rw [e, q, pk_us]; exact hv
  · rw [e, pk_un q]; exact h k hk
/-- what a reading leaves at its design, and that it leaves the others alone -/
def RD (d : Nat) (wh fa : Int32) (t o y a t' o' y' a' : Nat → Int32) : Prop := (∀ k : Nat, k ≠ d → t' k = t k ∧ o' k = o k ∧ y' k = y k ∧ a' k = a k) ∧ (0 ≤ (t' d).toInt ∧ (t' d).toInt ≤ 10000) ∧ (0 ≤ (o' d).toInt ∧ (o' d).toInt ≤ 10000) ∧ (0 ≤ (y' d).toInt ∧ (y' d).toInt ≤ 10000) ∧ (0 ≤ (a' d).toInt ∧ (a' d).toInt ≤ 10000) ∧ (fa.toInt = -1 → wh.toInt ≤ 24 ∧ (t' d).toInt + (o' d).toInt + (y' d).toInt + (a' d).toInt ≤ wh.toInt)
theorem RD_same {F : Nat → Int × Ac} {rd fa wh t o y a : Nat → Int32} {d : Nat} {w f : Int32} (h : MD F rd fa wh t o y a) (hd : d < 4) (hf : ¬ f.toInt = -1) : RD d w f t o y a t o y a := by
  obtain ⟨-, h1, h2, h3, h4, -⟩ := h d hd
  exact ⟨fun _ _ => ⟨rfl, rfl, rfl, rfl⟩, h1, h2, h3, h4, fun q => absurd q hf⟩
theorem RD_new {t o y a t' o' y' a' : Nat → Int32} {d : Nat} {w f x1 x2 x3 x4 : Int32} (e1 : t' = upd t d x1) (e2 : o' = upd o d x2) (e3 : y' = upd y d x3) (e4 : a' = upd a d x4) (h1 : 0 ≤ x1.toInt ∧ x1.toInt ≤ 7200) (h2 : 0 ≤ x2.toInt ∧ x2.toInt ≤ 7200) (h3 : 0 ≤ x3.toInt ∧ x3.toInt ≤ 7200) (h4 : 0 ≤ x4.toInt ∧ x4.toInt ≤ 7200) (hf : f.toInt = -1 → w.toInt ≤ 24 ∧ x1.toInt + x2.toInt + x3.toInt + x4.toInt ≤ w.toInt) : RD d w f t o y a t' o' y' a' := by
  subst e1 e2 e3 e4
  unfold RD
  rw [pk_us, pk_us, pk_us, pk_us]
  exact ⟨fun k hk => ⟨pk_un hk, pk_un hk, pk_un hk, pk_un hk⟩, by omega, by omega, by omega, by omega, hf⟩
theorem MD_read {F : Nat → Int × Ac} {rd fa wh t o y a rd2 fa2 wh2 t' o' y' a' : Nat → Int32} {d : Nat} {v f w : Int32} (h : MD F rd fa wh t o y a) (e4 : rd2 = upd rd d v) (e5 : fa2 = upd fa d f) (e6 : wh2 = upd wh d w) (hr : RD d w f t o y a t' o' y' a') (hw : 1 ≤ w.toInt ∧ w.toInt ≤ 480) (hF : f.toInt = (F d).1 ∧ (f.toInt = -1 → LK (F d).2 w (t' d) (o' d) (y' d) (a' d))) : MD F rd2 fa2 wh2 t' o' y' a' := by
  intro k hk
  obtain ⟨r0, r1, r2, r3, r4, r5⟩ := hr
  by_cases q : k = d
  · rw [e4, e5, e6, q, pk_us, pk_us, pk_us]
    exact ⟨by omega, r1, r2, r3, r4, fun _ => ⟨hw.1, r5, hF.1, hF.2⟩⟩
  · obtain ⟨q1, q2, q3, q4⟩ := r0 k q
    rw [e4, e5, e6, pk_un q, pk_un q, pk_un q, q1, q2, q3, q4]
    exact h k hk
/-- what is read stays so -/
def RK (rd fa rd' fa' : Nat → Int32) : Prop := ∀ k : Nat, ¬ rd k = 0 → rd' k = rd k ∧ fa' k = fa k
theorem PT_0 {t b : Nat → Int32} : PT 0 t b := ⟨by decide, by decide, fun i hi => absurd hi z_no0⟩
theorem RK_refl {rd fa : Nat → Int32} : RK rd fa rd fa := fun _ _ => ⟨rfl, rfl⟩
theorem RK_upd {rd fa rd2 fa2 : Nat → Int32} {d : Nat} {v f : Int32} (e4 : rd2 = upd rd d v) (e5 : fa2 = upd fa d f) (h : rd d = 0) : RK rd fa rd2 fa2 := fun k hk => by
  have q : k ≠ d := fun q => hk (by rw [q]; exact h)
  rw [e4, e5, pk_un q, pk_un q]
  exact ⟨rfl, rfl⟩
theorem RK_trans {a b a1 b1 a2 b2 : Nat → Int32} (h1 : RK a b a1 b1) (h2 : RK a1 b1 a2 b2) : RK a b a2 b2 := fun k hk => by
  obtain ⟨p1, p2⟩ := h1 k hk
  obtain ⟨p3, p4⟩ := h2 k (by rw [p1]; exact hk)
  exact ⟨p3.trans p1, p4.trans p2⟩
theorem z_eq0 {x y : Int32} (e : x = y) (h : x.toInt = 0) : y = 0 := by
  rw [← e]
  exact Int32.toInt_inj.mp (by rw [h]; decide)
theorem z_ne0 {x y : Int32} (e : x = y) (h : ¬ x.toInt = 0) : ¬ y = 0 := fun q => h (by rw [e, q]; decide)
theorem PT_div {n i g q1 q2 x1 x2 : Int32} {t b t2 b2 : Nat → Int32} (h : PT n t b) (h0 : 0 ≤ i.toInt) (hi : i.toInt < n.toInt) (e1 : x1 = t i.toNatClampNeg) (e2 : x2 = b i.toNatClampNeg) (d1 : q1 = x1 / g) (d2 : q2 = x2 / g) (hg : 1 ≤ g.toInt) (hg2 : g.toInt ≤ x2.toInt) (et : t2 = upd t i.toNatClampNeg q1) (eb : b2 = upd b i.toNatClampNeg q2) : PT n t2 b2 := by
  have hp := PT_at h h0 hi
  rw [← e1, ← e2] at hp
  obtain ⟨k1, k2, k3, k4⟩ := zi_div d1 rfl rfl hp.1 hg
  obtain ⟨l1, l2, l3, l4⟩ := zi_div d2 rfl rfl (by omega) hg
  have hle : x1.toInt / g.toInt ≤ x2.toInt / g.toInt := Int.ediv_le_ediv (by omega) hp.2.1
  refine ⟨h.1, h.2.1, fun k hk => ?_⟩
  by_cases q : k = i.toNatClampNeg
  · rw [et, eb, q, pk_us, pk_us, k1, l1]
    exact ⟨k2, hle, l4 hg2, by omega⟩
  · rw [et, eb, pk_un q, pk_un q]
    exact h.2.2 k hk
theorem MD_at {F : Nat → Int × Ac} {rd fa wh tr op ye an : Nat → Int32} {d : Int32} (h : MD F rd fa wh tr op ye an) (hd : 0 ≤ d.toInt ∧ d.toInt < 4) : MS (F d.toNatClampNeg) (rd d.toNatClampNeg) (fa d.toNatClampNeg) (wh d.toNatClampNeg) (tr d.toNatClampNeg) (op d.toNatClampNeg) (ye d.toNatClampNeg) (an d.toNatClampNeg) := h _ (z_cl4 hd)
theorem MP_tell {n m x p d v : Int32} {f g y f2 g2 y2 : Nat → Int32} (h : MP n f g y) (em : m = n) (hn : m.toInt < 120) (ex : x = m + 1) (ef : f2 = upd f m.toNatClampNeg p) (eg : g2 = upd g m.toNatClampNeg d) (ey : y2 = upd y m.toNatClampNeg v) (hp : 0 ≤ p.toInt ∧ p.toInt < 24) (hd : 0 ≤ d.toInt ∧ d.toInt < 4) (hv : 0 ≤ v.toInt ∧ v.toInt ≤ 1) : MP x f2 g2 y2 := by
  refine ⟨P6_tell h.1 em hn ex ef eg hp hd, ?_⟩
  subst em
  have h0 := h.1.1
  have hx : x.toInt = m.toInt + 1 := z_add ex rfl (show (1 : Int32).toInt = 1 by decide) (by omega)
  have hc := z_clamp h0
  intro i hi
  by_cases q : i = m.toNatClampNeg
  · rw [ey, q, pk_us]; exact hv
  · rw [ey, pk_un q]; exact h.2 i (by omega)
theorem MD_off {F F2 : Nat → Int × Ac} {rd fa wh tr op ye an rd2 : Nat → Int32} {d : Nat} {v : Int32} (h : MD F rd fa wh tr op ye an) (e : rd2 = upd rd d v) (hv : v = 0) (hF : ∀ k : Nat, k ≠ d → F2 k = F k) : MD F2 rd2 fa wh tr op ye an := fun k hk => by
  by_cases q : k = d
  · obtain ⟨h1, h2, h3, h4, h5, -⟩ := h k hk
    rw [e, q, pk_us]
    rw [q] at h1 h2 h3 h4 h5
    exact ⟨h1, h2, h3, h4, h5, fun z => absurd hv z⟩
  · rw [e, pk_un q, hF k q]; exact h k hk
theorem z_pow24 {v : Int} (h : 1 ≤ v ∧ v ≤ 24) : ∀ n : Nat, 1 ≤ v ^ n ∧ v ^ n ≤ 24 ^ n
  | 0 => by simp
  | n + 1 => by
    obtain ⟨h1, h2⟩ := z_pow24 h n
    rw [Int.pow_succ, Int.pow_succ]
    have q := z_mulb (a := v ^ n) (b := v) (A := 24 ^ n) (B := 24) ⟨by omega, h2⟩ ⟨by omega, h.2⟩
    have q2 : 1 * 1 ≤ v ^ n * v := Int.mul_le_mul h1 h.1 (by decide) (by omega)
    exact ⟨by omega, q.2⟩
theorem z_pow12 {v : Int} (h : 1 ≤ v ∧ v ≤ 24) {n : Nat} (hn : n ≤ 12) : 1 ≤ v ^ n ∧ v ^ n ≤ 36520347436056576 := by
  obtain ⟨h1, h2⟩ := z_pow24 h n
  have h3 : (24 : Int) ^ n ≤ 24 ^ 12 := by
    have q : (24 : Nat) ^ n ≤ 24 ^ 12 := Nat.pow_le_pow_right (by decide) hn
    exact_mod_cast q
  have h4 : (24 : Int) ^ 12 = 36520347436056576 := by decide
  omega
theorem z_powstep {v x y : Int64} {i j : Int32} (hv : 1 ≤ v.toInt ∧ v.toInt ≤ 24) (h : x.toInt = v.toInt ^ i.toNatClampNeg) (hi : 0 ≤ i.toInt) (hi2 : i.toInt < 12) (e : y = x * v) (hj : j.toInt = i.toInt + 1) : y.toInt = v.toInt ^ j.toNatClampNeg := by
  have c1 := z_clamp hi
  have c2 := z_clamp (x := j) (by omega)
  have q := z_pow12 hv (n := i.toNatClampNeg + 1) (by omega)
  have ej : j.toNatClampNeg = i.toNatClampNeg + 1 := by omega
  rw [Int.pow_succ] at q
  rw [ej, Int.pow_succ, ← h]
  rw [← h] at q
  exact zl_mul e rfl rfl (by omega)
/-! an answer is known; the designs of a person's known answers are read, and without fault -/
def knT (z : ZS) : Int := if (z.1 20).toInt = -1 then (z.1 19).toInt else (z.1 20).toInt
def kn (z : ZS) (i : Nat) : Prop := (z.2.2.1 26 i).toInt ≤ knT z ∧ ((z.2.2.1 27 i).toInt = -1 ∨ knT z < (z.2.2.1 27 i).toInt)
def GI (z : ZS) (pe : Int32) (rd fa : Nat → Int32) (D A : Int) : Prop := ∀ i : Nat, (i : Int) < (z.1 22).toInt → z.2.2.1 23 i = pe → kn z i → ((z.2.2.1 24 i).toInt < D ∨ ((z.2.2.1 24 i).toInt = D ∧ (i : Int) < A)) → ¬ rd (z.2.2.1 24 i).toNatClampNeg = 0 ∧ (fa (z.2.2.1 24 i).toNatClampNeg).toInt = -1
theorem GI_0 {z : ZS} {pe : Int32} {rd fa : Nat → Int32} (hI : MInv z) : GI z pe rd fa 0 0 := fun i hi _ _ h => by
  have q := hI.1.1.2.2 i hi
  omega
theorem GI_skip {z : ZS} {pe a : Int32} {rd fa : Nat → Int32} {D : Int} (h : GI z pe rd fa D a.toInt) (ha : 0 ≤ a.toInt) (hn : z.2.2.1 23 a.toNatClampNeg = pe → kn z a.toNatClampNeg → (z.2.2.1 24 a.toNatClampNeg).toInt = D → False) {b : Int} (hb : b = a.toInt + 1) : GI z pe rd fa D b := fun i hi h1 h2 h3 => by
  have c := z_clamp ha
  by_cases q : i = a.toNatClampNeg
  · subst q
    rcases h3 with h3 | h3
    · exact h _ hi h1 h2 (Or.inl h3)
    · exact (hn h1 h2 h3.1).elim
  · refine h i hi h1 h2 ?_
    rcases h3 with h3 | h3
    · exact Or.inl h3
    · exact Or.inr ⟨h3.1, by omega⟩
theorem GI_rk {z : ZS} {pe : Int32} {rd fa rd2 fa2 : Nat → Int32} {D A : Int} (h : GI z pe rd fa D A) (hr : RK rd fa rd2 fa2) : GI z pe rd2 fa2 D A := fun i hi h1 h2 h3 => by
  obtain ⟨q1, q2⟩ := h i hi h1 h2 h3
  obtain ⟨q3, q4⟩ := hr _ q1
  rw [q3, q4]
  exact ⟨q1, q2⟩
theorem GI_add {z : ZS} {pe a d : Int32} {rd fa : Nat → Int32} (h : GI z pe rd fa d.toInt a.toInt) (ha : 0 ≤ a.toInt) (hd : ¬ rd d.toNatClampNeg = 0) (hf : (fa d.toNatClampNeg).toInt = -1) {b : Int} (hb : b = a.toInt + 1) : GI z pe rd fa d.toInt b := fun i hi h1 h2 h3 => by
  have c := z_clamp ha
  by_cases q : (z.2.2.1 24 i).toInt = d.toInt
  · have e : z.2.2.1 24 i = d := Int32.toInt_inj.mp q
    rw [e]
    exact ⟨hd, hf⟩
  · refine h i hi h1 h2 ?_
    rcases h3 with h3 | h3
    · exact Or.inl h3
    · exact absurd h3.1 q
theorem GI_next {z : ZS} {pe d : Int32} {rd fa : Nat → Int32} {A : Int} (h : GI z pe rd fa d.toInt A) (hA : (z.1 22).toInt ≤ A) {D : Int} (hD : D = d.toInt + 1) : GI z pe rd fa D 0 := fun i hi h1 h2 h3 => h i hi h1 h2 (by
  rcases h3 with h3 | h3
  · by_cases q : (z.2.2.1 24 i).toInt < d.toInt
    · exact Or.inl q
    · exact Or.inr ⟨by omega, by omega⟩
  · omega)
def R7 (rd wh t o y a wh' t' o' y' a' : Nat → Int32) : Prop := ∀ k : Nat, ¬ rd k = 0 → wh' k = wh k ∧ t' k = t k ∧ o' k = o k ∧ y' k = y k ∧ a' k = a k
theorem R7_refl {rd wh t o y a : Nat → Int32} : R7 rd wh t o y a wh t o y a := fun _ _ => ⟨rfl, rfl, rfl, rfl, rfl⟩
theorem R7_upd {rd wh t o y a wh2 t' o' y' a' : Nat → Int32} {d : Nat} {w f x : Int32} (e6 : wh2 = upd wh d x) (hr : RD d w f t o y a t' o' y' a') (h : rd d = 0) : R7 rd wh t o y a wh2 t' o' y' a' := fun k hk => by
  have q : k ≠ d := fun q => hk (by rw [q]; exact h)
  rw [e6, pk_un q]
  exact ⟨rfl, hr.1 k q⟩
/-- the unit: what both fractions' lower parts have in common -/
def uN (a b w : Int) : Int := (((w.natAbs / Nat.gcd a.natAbs w.natAbs : Nat) : Int) / (Nat.gcd (((w.natAbs / Nat.gcd a.natAbs w.natAbs : Nat) : Int)).natAbs (((w.natAbs / Nat.gcd b.natAbs w.natAbs : Nat) : Int)).natAbs : Int)) * ((w.natAbs / Nat.gcd b.natAbs w.natAbs : Nat) : Int)
theorem uN_eq {a b w xa xb ya yb o1 o2 g q m r : Int} (ha : xa = a) (hw : ya = w) (h1 : o1 = ((ya.natAbs / Nat.gcd xa.natAbs ya.natAbs : Nat) : Int)) (hb : xb = b) (hw2 : yb = w) (h2 : o2 = ((yb.natAbs / Nat.gcd xb.natAbs yb.natAbs : Nat) : Int)) (hg : g = (Nat.gcd o1.natAbs o2.natAbs : Int)) (hq : q = o1 / g) (hm : m = q * o2) (hr : r = m) : r = uN a b w := by
  subst ha hw hb hr hm hq hg
  subst hw2
  rw [h1, h2]
  rfl
