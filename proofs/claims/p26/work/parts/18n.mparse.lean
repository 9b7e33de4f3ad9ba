/-! the reference's reading: the parts lie in rows; the whole is the least that all parts divide, up to 24 -/
def arF (l t b : Nat → Int32) : Nat → Ac
  | 0 => ac0
  | p + 1 => acU (arF l t b p) (lT (l p).toInt) (t p).toInt (b p).toInt
theorem arF_0 {l t b : Nat → Int32} : arF l t b 0 = ac0 := by rw [arF]
theorem arF_s {l t b : Nat → Int32} {p : Nat} : arF l t b (p + 1) = acU (arF l t b p) (lT (l p).toInt) (t p).toInt (b p).toInt := by rw [arF]
theorem arF_cong {l t b l' t' b' : Nat → Int32} : ∀ {p : Nat}, (∀ k : Nat, k < p → l' k = l k ∧ t' k = t k ∧ b' k = b k) → arF l' t' b' p = arF l t b p
  | 0, _ => by rw [arF_0, arF_0]
  | p + 1, h => by
    obtain ⟨h1, h2, h3⟩ := h p (by omega)
    rw [arF_s, arF_s, arF_cong (p := p) (fun k hk => h k (by omega)), h1, h2, h3]
theorem arF_dvd {l t b : Nat → Int32} {i : Nat} : ∀ {p : Nat}, i ≤ p → (arF l t b p).2 ∣ (arF l t b i).2
  | 0, h => by rw [show i = 0 by omega]; exact Nat.dvd_refl _
  | p + 1, h => by
    by_cases q : i = p + 1
    · rw [q]; exact Nat.dvd_refl _
    · rw [arF_s]
      exact Nat.dvd_trans (Nat.gcd_dvd_left _ _) (arF_dvd (p := p) (by omega))
def rr (t b : Int32) : Nat := b.toInt.toNat / Nat.gcd t.toInt.toNat b.toInt.toNat
def WI (l t b : Nat → Int32) (i : Nat) (w : Int) : Prop := 1 ≤ w ∧ 0 < (arF l t b i).2 ∧ (w ≤ 24 → (arF l t b i).2 * w.toNat = zW ∧ ∀ k : Nat, k < i → w.toNat % rr (t k) (b k) = 0) ∧ (25 ≤ w → 25 * (arF l t b i).2 ≤ zW)
theorem WI_0 {l t b : Nat → Int32} {w : Int} (hw : w = 1) : WI l t b 0 w := by
  subst hw
  rw [WI, arF_0]
  exact ⟨by decide, by decide, fun _ => ⟨by decide, fun k hk => absurd hk (by omega)⟩, fun h => absurd h (by decide)⟩
def wP (w n m : Nat) : Bool := if 0 < w ∧ zW % w = 0 ∧ 1 ≤ n ∧ m ≤ n then Nat.beq (Nat.gcd (zW / w) (zW / n * m) * (w / Nat.gcd w (n / Nat.gcd m n) * (n / Nat.gcd m n))) zW else true
set_option maxRecDepth 100000 in
theorem wP_all : ∀ w : Nat, w < 25 → ∀ n : Nat, n < 21 → ∀ m : Nat, m < 21 → wP w n m = true := by decide +kernel
theorem wN_dec (w : Nat) (hw : w < 25) (n : Nat) (hn : n < 21) (m : Nat) (hm : m < 21) (h : 0 < w ∧ zW % w = 0 ∧ 1 ≤ n ∧ m ≤ n) : Nat.gcd (zW / w) (zW / n * m) * (w / Nat.gcd w (n / Nat.gcd m n) * (n / Nat.gcd m n)) = zW := by
  have k := wP_all w hw n hn m hm
  rw [wP, if_pos h] at k
  exact Nat.eq_of_beq_eq_true k
set_option maxRecDepth 100000 in
theorem wN_div : ∀ w : Nat, w < 25 → ∀ r : Nat, r < 21 → ∀ s : Nat, s < 21 → (0 < w ∧ 1 ≤ r ∧ 1 ≤ s ∧ w % s = 0 → (w / Nat.gcd w r * r) % s = 0) := by decide +kernel
set_option maxRecDepth 100000 in
theorem wN_r : ∀ n : Nat, n < 21 → ∀ m : Nat, m < 21 → (1 ≤ n ∧ m ≤ n → 1 ≤ n / Nat.gcd m n ∧ n / Nat.gcd m n ≤ 20 ∧ 1 ≤ Nat.gcd m n) := by decide +kernel
set_option maxRecDepth 100000 in
theorem wN_s : ∀ w : Nat, w < 25 → ∀ r : Nat, r < 21 → (0 < w ∧ 1 ≤ r → (w / Nat.gcd w r * r) % r = 0 ∧ 1 ≤ w / Nat.gcd w r * r) := by decide +kernel
def wQ (w n m : Nat) : Bool := if 0 < w ∧ zW % w = 0 ∧ 1 ≤ n ∧ m ≤ n ∧ w % (n / Nat.gcd m n) = 0 then Nat.beq (zW / n * m) (zW / w * (m / Nat.gcd m n * (w / (n / Nat.gcd m n)))) else true
set_option maxRecDepth 100000 in
theorem wQ_all : ∀ w : Nat, w < 25 → ∀ n : Nat, n < 21 → ∀ m : Nat, m < 21 → wQ w n m = true := by decide +kernel
theorem wN_sh (w : Nat) (hw : w < 25) (n : Nat) (hn : n < 21) (m : Nat) (hm : m < 21) (h : 0 < w ∧ zW % w = 0 ∧ 1 ≤ n ∧ m ≤ n ∧ w % (n / Nat.gcd m n) = 0) : zW / n * m = zW / w * (m / Nat.gcd m n * (w / (n / Nat.gcd m n))) := by
  have k := wQ_all w hw n hn m hm
  rw [wQ, if_pos h] at k
  exact Nat.eq_of_beq_eq_true k
theorem WI_step {l t b : Nat → Int32} {i : Nat} {w g x g2 q w2 : Int} (h : WI l t b i w) (hpa : ∀ k : Nat, k < i → (b k).toInt ≤ 20) (hw : w ≤ 24) (hp : 0 ≤ (t i).toInt ∧ (t i).toInt ≤ (b i).toInt ∧ 1 ≤ (b i).toInt ∧ (b i).toInt ≤ 20) (hg : g = (Nat.gcd (t i).toInt.natAbs (b i).toInt.natAbs : Int)) (hx : x = (b i).toInt / g) (hg2 : g2 = (Nat.gcd w.natAbs x.natAbs : Int)) (hq : q = w / g2) (hw2 : w2 = q * x) : WI l t b (i + 1) w2 := by
  obtain ⟨h1, h2, h3, h4⟩ := h
  obtain ⟨h5, h6⟩ := h3 hw
  have et : (t i).toInt.natAbs = (t i).toInt.toNat := by omega
  have eb : (b i).toInt.natAbs = (b i).toInt.toNat := by omega
  have ex : x = (rr (t i) (b i) : Int) := by
    rw [hx, hg, et, eb, rr, Int.natCast_ediv, Int.toNat_of_nonneg (by omega)]
  have er := wN_r (b i).toInt.toNat (by omega) (t i).toInt.toNat (by omega) ⟨by omega, by omega⟩
  have ew : (w.natAbs : Nat) = w.toNat := by omega
  have exn : x.natAbs = rr (t i) (b i) := by omega
  have e2 : w2 = ((w.toNat / Nat.gcd w.toNat (rr (t i) (b i)) * rr (t i) (b i) : Nat) : Int) := by
    rw [hw2, hq, hg2, ew, exn, ex, Int.natCast_mul, Int.natCast_ediv, Int.toNat_of_nonneg (by omega)]
  have hz : zW % w.toNat = 0 := by rw [← h5]; exact Nat.mul_mod_left _ _
  have hd : zW / w.toNat = (arF l t b i).2 := by rw [← h5]; exact Nat.mul_div_cancel _ (by omega)
  have k1 := wN_dec w.toNat (by omega) (b i).toInt.toNat (by omega) (t i).toInt.toNat (by omega) ⟨by omega, hz, by omega, by omega⟩
  rw [hd] at k1
  have er1 : 1 ≤ rr (t i) (b i) := er.1
  have er2 : rr (t i) (b i) ≤ 20 := er.2.1
  have k2 := wN_s w.toNat (by omega) (rr (t i) (b i)) (by omega) ⟨by omega, er1⟩
  have key : (arF l t b (i + 1)).2 * w2.toNat = zW := by
    rw [arF_s, e2, Int.toNat_natCast]
    exact k1
  have hpos : 0 < (arF l t b (i + 1)).2 := by
    rcases Nat.eq_zero_or_pos (arF l t b (i + 1)).2 with z | z
    · rw [z, Nat.zero_mul] at key
      exact absurd key (by decide)
    · exact z
  refine ⟨by omega, hpos, fun hle => ⟨key, fun k hk => ?_⟩, fun hge => ?_⟩
  · rw [e2, Int.toNat_natCast]
    by_cases q : k = i
    · rw [q]; exact k2.1
    · have h7 := h6 k (by omega)
      have hk1 := hpa k (by omega)
      have hk2 : rr (t k) (b k) ≤ (b k).toInt.toNat := Nat.div_le_self _ _
      rcases Nat.eq_zero_or_pos (rr (t k) (b k)) with z0 | z0
      · rw [z0, Nat.mod_zero] at h7
        omega
      · exact wN_div w.toNat (by omega) (rr (t i) (b i)) (by omega) (rr (t k) (b k)) (by omega) ⟨by omega, er1, z0, h7⟩
  · rw [← key]
    have : 25 ≤ w2.toNat := by omega
    rw [Nat.mul_comm 25]
    exact Nat.mul_le_mul_left _ this
theorem WI_end {l t b : Nat → Int32} {i p : Nat} {w : Int} (h : WI l t b i w) (hi : i ≤ p) (hp : 0 < (arF l t b p).2) (hx : w ≤ 24 → i = p) : WI l t b p w := by
  by_cases q : w ≤ 24
  · rw [← hx q]; exact h
  · obtain ⟨h1, h2, h3, h4⟩ := h
    refine ⟨h1, hp, fun z => absurd z q, fun z => ?_⟩
    have h5 := h4 z
    have h6 : (arF l t b p).2 ≤ (arF l t b i).2 := Nat.le_of_dvd h2 (arF_dvd hi)
    omega
theorem arF_pos {l t b : Nat → Int32} : ∀ {p : Nat}, 0 < (arF l t b p).2
  | 0 => by rw [arF_0]; decide
  | p + 1 => by
    rw [arF_s]
    exact Nat.gcd_pos_of_pos_left _ (arF_pos (p := p))
/-! the shares of a letter, in parts of the whole -/
def shM (l t b : Nat → Int32) (w le : Int) : Nat → Int
  | 0 => 0
  | k + 1 => shM l t b w le k + (if (l k).toInt = le then (t k).toInt * (w / (b k).toInt) else 0)
theorem shM_0 {l t b : Nat → Int32} {w le : Int} : shM l t b w le 0 = 0 := by rw [shM]
theorem shM_s {l t b : Nat → Int32} {w le : Int} {k : Nat} : shM l t b w le (k + 1) = shM l t b w le k + (if (l k).toInt = le then (t k).toInt * (w / (b k).toInt) else 0) := by rw [shM]
def RDc (p : Nat) (t b t3 b3 : Nat → Int32) (kk : Int) : Prop := ∀ k : Nat, k < p → ((k : Int) < kk → (t3 k).toInt = (((t k).toInt.toNat / Nat.gcd (t k).toInt.toNat (b k).toInt.toNat : Nat) : Int) ∧ (b3 k).toInt = (rr (t k) (b k) : Int)) ∧ (kk ≤ (k : Int) → t3 k = t k ∧ b3 k = b k)
theorem RDc_0 {p : Nat} {t b : Nat → Int32} {kk : Int} (h : kk = 0) : RDc p t b t b kk := fun k hk => ⟨fun q => by omega, fun _ => ⟨rfl, rfl⟩⟩
theorem RDc_step {p : Nat} {t b t3 b3 t4 b4 : Nat → Int32} {i x1 x2 q1 q2 : Int32} {g : Int} {kk2 : Int} (h : RDc p t b t3 b3 i.toInt) (hi : 0 ≤ i.toInt ∧ i.toInt < (p : Int)) (hp : 0 ≤ (t i.toNatClampNeg).toInt ∧ 1 ≤ (b i.toNatClampNeg).toInt) (e1 : x1 = t3 i.toNatClampNeg) (e2 : x2 = b3 i.toNatClampNeg) (hg : g = (Nat.gcd x1.toInt.natAbs x2.toInt.natAbs : Int)) (hq1 : q1.toInt = x1.toInt / g) (hq2 : q2.toInt = x2.toInt / g) (et : t4 = upd t3 i.toNatClampNeg q1) (eb : b4 = upd b3 i.toNatClampNeg q2) (hk2 : kk2 = i.toInt + 1) : RDc p t b t4 b4 kk2 := fun k hk => by
  have c := z_clamp hi.1
  obtain ⟨s1, s2⟩ := (h i.toNatClampNeg (by omega)).2 (by omega)
  rw [s1] at e1
  rw [s2] at e2
  have et0 : x1.toInt.natAbs = (t i.toNatClampNeg).toInt.toNat := by rw [e1]; omega
  have eb0 : x2.toInt.natAbs = (b i.toNatClampNeg).toInt.toNat := by rw [e2]; omega
  rw [et0, eb0] at hg
  by_cases q : k = i.toNatClampNeg
  · refine ⟨fun _ => ?_, fun z => by omega⟩
    rw [et, eb, q, pk_us, pk_us, hq1, hq2, hg, e1, e2]
    refine ⟨?_, ?_⟩
    · rw [Int.natCast_ediv, Int.toNat_of_nonneg hp.1]
    · rw [rr, Int.natCast_ediv, Int.toNat_of_nonneg (by omega)]
  · rw [et, eb, pk_un q, pk_un q]
    exact ⟨fun z => (h k hk).1 (by omega), fun z => (h k hk).2 (by omega)⟩
theorem lT_inj {x y : Int} (hx : ¬ lT x = -1) (hy : ¬ lT y = -1) (h : (lT x).toNat = (lT y).toNat) : x = y := by
  unfold lT at hx hy h
  repeat' split at hx
  all_goals repeat' split at hy
  all_goals first | omega | simp_all
theorem sh_link {l t b t3 b3 : Nat → Int32} {w le : Int} (hw : 1 ≤ w ∧ w ≤ 24) (hz : zW % w.toNat = 0) (hle : ¬ lT le = -1) : ∀ {p : Nat}, RDc p t b t3 b3 (p : Int) → (∀ k : Nat, k < p → (0 ≤ (t k).toInt ∧ (t k).toInt ≤ (b k).toInt ∧ 1 ≤ (b k).toInt ∧ (b k).toInt ≤ 20) ∧ ¬ lT (l k).toInt = -1 ∧ w.toNat % rr (t k) (b k) = 0) → ((arF l t b p).1 (lT le).toNat : Int) = ((zW / w.toNat : Nat) : Int) * shM l t3 b3 w le p
  | 0, _, _ => by rw [arF_0, shM_0]; rfl
  | p + 1, h, hp => by
    have ih := sh_link hw hz hle (p := p) (fun k hk => ⟨fun _ => (h k (by omega)).1 (by omega), fun z => by omega⟩) (fun k hk => hp k (by omega))
    obtain ⟨⟨p1, p2, p3, p4⟩, pl, pr⟩ := hp p (by omega)
    obtain ⟨r1, r2⟩ := (h p (by omega)).1 (by omega)
    have k1 := wN_sh w.toNat (by omega) (b p).toInt.toNat (by omega) (t p).toInt.toNat (by omega) ⟨by omega, hz, by omega, by omega, pr⟩
    rw [arF_s, shM_s]
    show (((if (lT le).toNat = (lT (l p).toInt).toNat then (arF l t b p).1 (lT le).toNat + sh1 (t p).toInt (b p).toInt else (arF l t b p).1 (lT le).toNat) : Nat) : Int) = _
    by_cases q : (l p).toInt = le
    · rw [if_pos (by rw [q]), if_pos q, Int.natCast_add, ih, Int.mul_add]
      congr 1
      rw [show sh1 (t p).toInt (b p).toInt = zW / (b p).toInt.toNat * (t p).toInt.toNat from rfl, k1, Int.natCast_mul, Int.natCast_mul, r1, r2, Int.natCast_ediv w.toNat, Int.toNat_of_nonneg (by omega)]
      rfl
    · rw [if_neg (fun z => q (lT_inj pl hle z.symm)), if_neg q, Int.add_zero]
      exact ih
/-- the end of a reading -/
theorem rd_end {l t b t3 b3 : Nat → Int32} {p : Nat} {w n all f : Int} (hW : WI l t b p w) (hw : w ≤ 24) (hR : RDc p t b t3 b3 (p : Int)) (hp : ∀ k : Nat, k < p → (0 ≤ (t k).toInt ∧ (t k).toInt ≤ (b k).toInt ∧ 1 ≤ (b k).toInt ∧ (b k).toInt ≤ 20) ∧ ¬ lT (l k).toInt = -1) (ha : all = shM l t3 b3 w 116 p + shM l t3 b3 w 111 p + shM l t3 b3 w 121 p + shM l t3 b3 w 117 p + shM l t3 b3 w 110 p) (hf : (all = w ∧ f = -1) ∨ (¬ all = w ∧ f = n)) : f = acF (arF l t b p) n := by
  obtain ⟨h1, h2, h3, h4⟩ := hW
  obtain ⟨h5, h6⟩ := h3 hw
  have hz : zW % w.toNat = 0 := by rw [← h5]; exact Nat.mul_mod_left _ _
  have hp' := fun k (hk : k < p) => And.intro (hp k hk).1 (And.intro (hp k hk).2 (h6 k hk))
  have s0 := sh_link (le := 116) ⟨h1, hw⟩ hz (by decide) hR hp'
  have s1 := sh_link (le := 111) ⟨h1, hw⟩ hz (by decide) hR hp'
  have s2 := sh_link (le := 121) ⟨h1, hw⟩ hz (by decide) hR hp'
  have s3 := sh_link (le := 110) ⟨h1, hw⟩ hz (by decide) hR hp'
  have s4 := sh_link (le := 117) ⟨h1, hw⟩ hz (by decide) hR hp'
  have hd : zW / w.toNat = (arF l t b p).2 := by rw [← h5]; exact Nat.mul_div_cancel _ (by omega)
  rw [hd] at s0 s1 s2 s3 s4
  have hS : (acS (arF l t b p) : Int) = ((arF l t b p).2 : Int) * all := by
    show (((arF l t b p).1 0 + (arF l t b p).1 1 + (arF l t b p).1 2 + (arF l t b p).1 3 + (arF l t b p).1 4 : Nat) : Int) = _
    rw [ha, Int.mul_add, Int.mul_add, Int.mul_add, Int.mul_add, ← s0, ← s1, ← s2, ← s3, ← s4]
    show _ = ((arF l t b p).1 0 : Int) + ((arF l t b p).1 1 : Int) + ((arF l t b p).1 2 : Int) + ((arF l t b p).1 4 : Int) + ((arF l t b p).1 3 : Int)
    omega
  have hq : zW / (arF l t b p).2 = w.toNat := by rw [← h5]; exact Nat.mul_div_cancel_left _ h2
  have hWI : (zW : Int) = ((arF l t b p).2 : Int) * w := by rw [← h5, Int.natCast_mul, Int.toNat_of_nonneg (by omega)]
  rcases hf with ⟨e, ef⟩ | ⟨e, ef⟩
  · rw [ef]
    refine (if_pos ⟨?_, h2, by omega⟩).symm
    rw [e, ← hWI] at hS
    omega
  · rw [ef]
    refine (if_neg (fun z => e ?_)).symm
    have z1 : (acS (arF l t b p) : Int) = (zW : Int) := by rw [z.1]
    rw [hS, hWI] at z1
    exact Int.eq_of_mul_eq_mul_left (by omega) z1
theorem rd_end2 {l t b : Nat → Int32} {p : Nat} {w n : Int} (hW : WI l t b p w) (hw : 25 ≤ w) : n = acF (arF l t b p) n := by
  obtain ⟨h1, h2, h3, h4⟩ := hW
  have h5 := h4 hw
  refine (if_neg (fun z => ?_)).symm
  have z3 := z.2.2
  have : 25 ≤ zW / (arF l t b p).2 := (Nat.le_div_iff_mul_le h2).mpr h5
  omega
theorem rd_next {B : Int → Int} {n a at_ : Int} {f : Nat} {l t b l0 t0 b0 : Nat → Int32} {p p0 : Nat} {T : Int × Ac} (hr : pL B n (f + 1) a (arF l0 t0 b0 p0) = T) (hpx : pX B a = -1) (hat : at_ = a3 B a) (hp : p = p0 + 1) (hl : (l p0).toInt = B a) (ht : (t p0).toInt = nV B (a + 1)) (hb : (b p0).toInt = nV B (a2 B a + 1)) (ho : ∀ k : Nat, k ≠ p0 → l k = l0 k ∧ t k = t0 k ∧ b k = b0 k) : pC B n f at_ (arF l t b p) = T := by
  rw [pL_c hpx] at hr
  rw [hp, arF_s, hl, ht, hb, arF_cong (p := p0) (fun k hk => ho k (by omega)), hat]
  exact hr
theorem LV_next {l l0 t t0 b b0 : Nat → Int32} {p p0 : Nat} {x : Int} (h : ∀ k : Nat, k < p0 → ¬ lT (l0 k).toInt = -1) (hp : p = p0 + 1) (hl : (l p0).toInt = x) (hx : ¬ lT x = -1) (ho : ∀ k : Nat, k ≠ p0 → l k = l0 k ∧ t k = t0 k ∧ b k = b0 k) : ∀ k : Nat, k < p → ¬ lT (l k).toInt = -1 := fun k hk => by
  by_cases q : k = p0
  · rw [q, hl]; exact hx
  · rw [(ho k q).1]; exact h k (by omega)
theorem pX_lt {B : Int → Int} {a : Int} (h : pX B a = -1) (ha : 0 ≤ a) : ¬ lT (B a) = -1 := fun q => by
  rw [pX_1 q] at h
  omega
theorem arF_AD {l t b : Nat → Int32} : ∀ {p : Nat}, AD (arF l t b p)
  | 0 => by rw [arF_0]; exact AD_0
  | p + 1 => by rw [arF_s]; exact AD_u (arF_AD (p := p))
theorem acF_ok {A : Ac} {n : Int} (hn : 0 ≤ n) (h : acF A n = -1) : acS A = zW ∧ 0 < A.2 ∧ zW / A.2 ≤ 24 := by
  by_cases q : acS A = zW ∧ 0 < A.2 ∧ zW / A.2 ≤ 24
  · exact q
  · have e : acF A n = n := if_neg q
    omega
theorem rd_lk {l t b t3 b3 : Nat → Int32} {p : Nat} {w x0 x1 x2 x4 : Int32} {n f : Int} {T : Int × Ac} (hW : WI l t b p w.toInt) (hw : w.toInt ≤ 24) (hR : RDc p t b t3 b3 (p : Int)) (hp : ∀ k : Nat, k < p → (0 ≤ (t k).toInt ∧ (t k).toInt ≤ (b k).toInt ∧ 1 ≤ (b k).toInt ∧ (b k).toInt ≤ 20) ∧ ¬ lT (l k).toInt = -1) (h0 : x0.toInt = shM l t3 b3 w.toInt 116 p) (h1 : x1.toInt = shM l t3 b3 w.toInt 111 p) (h2 : x2.toInt = shM l t3 b3 w.toInt 121 p) (h4 : x4.toInt = shM l t3 b3 w.toInt 117 p) (hT : T = (acF (arF l t b p) n, arF l t b p)) (hf : f = T.1) (hq : f = -1) (hn : 0 ≤ n) : LK T.2 w x0 x1 x2 x4 := by
  obtain ⟨g1, g2, g3, g4⟩ := hW
  obtain ⟨g5, g6⟩ := g3 hw
  have hz : zW % w.toInt.toNat = 0 := by rw [← g5]; exact Nat.mul_mod_left _ _
  have hp' := fun k (hk : k < p) => And.intro (hp k hk).1 (And.intro (hp k hk).2 (g6 k hk))
  have s0 := sh_link (le := 116) ⟨g1, hw⟩ hz (by decide) hR hp'
  have s1 := sh_link (le := 111) ⟨g1, hw⟩ hz (by decide) hR hp'
  have s2 := sh_link (le := 121) ⟨g1, hw⟩ hz (by decide) hR hp'
  have s4 := sh_link (le := 117) ⟨g1, hw⟩ hz (by decide) hR hp'
  have hd : zW / w.toInt.toNat = (arF l t b p).2 := by rw [← g5]; exact Nat.mul_div_cancel _ (by omega)
  rw [hd] at s0 s1 s2 s4
  rw [← h0] at s0
  rw [← h1] at s1
  rw [← h2] at s2
  rw [← h4] at s4
  subst hT
  have hq2 : acF (arF l t b p) n = -1 := hf.symm.trans hq
  obtain ⟨k1, k2, k3⟩ := acF_ok hn hq2
  exact ⟨arF_AD, k2, k1, k3, by rw [← g5, Int.natCast_mul, Int.toNat_of_nonneg (by omega)], s0, s1, s2, s4⟩
/-! the reference's lots and the tracked ones -/
theorem z_ofI {x : Int} (h : -2147483648 ≤ x ∧ x ≤ 2147483647) : (Int32.ofInt x).toInt = x := Int32.toInt_ofInt_of_le (by omega) (by omega)
theorem FR_b {ty tx : Nat → Int32} {d : Nat} (h : 0 ≤ (ty d).toInt ∧ (ty d).toInt ≤ 60) : -1 ≤ (FR ty tx d).1 ∧ (FR ty tx d).1 ≤ 64 := by
  have q := pL_bd (B := bX (ty d) (TXr tx d)) (n := (ty d).toInt) (f := 60) (a := 0) (A := ac0) (by decide) h.1
  have e : FR ty tx d = pL (bX (ty d) (TXr tx d)) (ty d).toInt 60 0 ac0 := rfl
  rw [e]
  omega
theorem lx_e {F : Int × Ac} {v : Int32} (h : F.1 = -1) : lx (eF F) v = v := lx_y (by unfold eF; rw [h]; decide)
theorem lot_lin {g tr ye an ot x y v H : Int} (h0 : x = g * tr) (h2 : y = g * ye) (h4 : v = g * an) (hH : H = x * 24 + (y * 24 + v * ot)) : H = g * (24 * (tr + ye) + an * ot) := by
  have e1 : g * (24 * (tr + ye) + an * ot) = g * (24 * (tr + ye)) + g * (an * ot) := Int.mul_add _ _ _
  have e2 : g * (24 * (tr + ye)) = 24 * (g * tr) + 24 * (g * ye) := by rw [Int.mul_left_comm, Int.mul_add, Int.mul_add]
  have e3 : g * an * ot = g * (an * ot) := Int.mul_assoc _ _ _
  rw [hH, h0, h2, h4, e1, e2, e3]
  omega
theorem lH_c {A : Ac} {ot : Int} {j : Nat} (h : 0 ≤ ot) : (lH A ot j : Int) = (A.1 j : Int) * 24 + ((A.1 2 : Int) * 24 + (A.1 4 : Int) * ot) := by
  unfold lH
  rw [Int.natCast_add, Int.natCast_add, Int.natCast_mul, Int.natCast_mul, Int.natCast_mul, Int.toNat_of_nonneg h]
  rfl
theorem yI_v1 {tr op ye an ot : Int32} : yI tr op ye an ot 1 = 24 * (tr.toInt + ye.toInt) + an.toInt * ot.toInt := by
  unfold yI
  rw [if_pos (by decide)]
theorem yI_v0 {tr op ye an ot : Int32} : yI tr op ye an ot 0 = 24 * (op.toInt + ye.toInt) + an.toInt * ot.toInt := by
  unfold yI
  rw [if_neg (by decide)]
theorem lots_A {A : Ac} {wh tr op ye an ot : Int32} (ho : 0 ≤ ot.toInt ∧ ot.toInt ≤ 24) (hk : LK A wh tr op ye an) : ∃ c e : Int, 0 < c ∧ 0 < e ∧ c * lU A ot.toInt = e * (24 * wh.toInt) ∧ c * lY A ot.toInt 0 = e * yI tr op ye an ot 1 ∧ c * lY A ot.toInt 1 = e * yI tr op ye an ot 0 := by
  obtain ⟨k1, k2, k3, k4, k5, k6, k7, k8, k9⟩ := hk
  have d0 : lG A ot.toInt ∣ lW := Nat.gcd_dvd_left _ _
  have d1 : lG A ot.toInt ∣ lH A ot.toInt 0 := Nat.dvd_trans (Nat.gcd_dvd_right _ _) (Nat.gcd_dvd_left _ _)
  have d2 : lG A ot.toInt ∣ lH A ot.toInt 1 := Nat.dvd_trans (Nat.gcd_dvd_right _ _) (Nat.gcd_dvd_right _ _)
  have hp := lG_pos (A := A) (ot := ot.toInt)
  refine ⟨(lG A ot.toInt : Int), (A.2 : Int), by omega, by omega, ?_, ?_, ?_⟩
  · unfold lU
    rw [← Int.natCast_mul, Nat.mul_div_cancel' d0, Int.mul_left_comm, k5]
    rfl
  · unfold lY
    rw [← Int.natCast_mul, Nat.mul_div_cancel' d1, yI_v1]
    exact lot_lin k6 k8 k9 (lH_c ho.1)
  · unfold lY
    rw [← Int.natCast_mul, Nat.mul_div_cancel' d2, yI_v0]
    exact lot_lin k7 k8 k9 (lH_c ho.1)
theorem unit_A {A : Ac} {wh tr op ye an ot : Int32} (ho : 0 ≤ ot.toInt ∧ ot.toInt ≤ 24) (hk : LK A wh tr op ye an) : lU A ot.toInt = uN (yI tr op ye an ot 1) (yI tr op ye an ot 0) (24 * wh.toInt) := by
  obtain ⟨k1, k2, k3, k4, k5, k6, k7, k8, k9⟩ := hk
  have e0 : (lW : Int) = (A.2 : Int) * (24 * wh.toInt) := by
    rw [Int.mul_left_comm, k5]
    rfl
  have e1 : (lH A ot.toInt 0 : Int) = (A.2 : Int) * yI tr op ye an ot 1 := by
    rw [yI_v1]
    exact lot_lin k6 k8 k9 (lH_c ho.1)
  have e2 : (lH A ot.toInt 1 : Int) = (A.2 : Int) * yI tr op ye an ot 0 := by
    rw [yI_v0]
    exact lot_lin k7 k8 k9 (lH_c ho.1)
  generalize yI tr op ye an ot 1 = p at *
  generalize yI tr op ye an ot 0 = q at *
  generalize 24 * wh.toInt = w at *
  have n0 : lW = A.2 * w.natAbs := by have h := congrArg Int.natAbs e0; rw [Int.natAbs_mul, Int.natAbs_natCast, Int.natAbs_natCast] at h; exact h
  have n1 : lH A ot.toInt 0 = A.2 * p.natAbs := by have h := congrArg Int.natAbs e1; rw [Int.natAbs_mul, Int.natAbs_natCast, Int.natAbs_natCast] at h; exact h
  have n2 : lH A ot.toInt 1 = A.2 * q.natAbs := by have h := congrArg Int.natAbs e2; rw [Int.natAbs_mul, Int.natAbs_natCast, Int.natAbs_natCast] at h; exact h
  have hb : 0 < w.natAbs := by
    rcases Nat.eq_zero_or_pos w.natAbs with z | z
    · rw [z, Nat.mul_zero] at n0
      exact absurd n0 (by decide)
    · exact z
  have l1 := (lots_c (b := w.natAbs) (y1 := p.natAbs) (y0 := q.natAbs) k2).1
  rw [← n0, ← n1, ← n2] at l1
  have l2 := unit_c (y1 := p.natAbs) (y0 := q.natAbs) hb
  show ((lW / Nat.gcd lW (Nat.gcd (lH A ot.toInt 0) (lH A ot.toInt 1)) : Nat) : Int) = _
  unfold uN
  rw [l1, ← l2, Int.natAbs_natCast, Int.natAbs_natCast, Int.natCast_mul, Int.natCast_ediv]
theorem lots_M {z : ZS} {d : Nat} {wh tr op ye an : Int32} (ho : 0 ≤ (z.1 11).toInt ∧ (z.1 11).toInt ≤ 24) (hd : d < 4) (hF : (FR (z.2.2.1 2) (z.2.2.1 3) d).1 = -1) (hk : LK (FR (z.2.2.1 2) (z.2.2.1 3) d).2 wh tr op ye an) : ∃ c e : Int, 0 < c ∧ 0 < e ∧ c * tU (trM z) d = e * (24 * wh.toInt) ∧ c * tY (trM z) d = e * yI tr op ye an (z.1 11) 1 ∧ c * tZ (trM z) d = e * yI tr op ye an (z.1 11) 0 := by
  obtain ⟨k1, k2, k3, k4, -⟩ := id hk
  obtain ⟨t1, t2, t3⟩ := trM_Lg (z := z) hd
  have bU := lU_b (ot := (z.1 11).toInt) k1 k2 k4
  have bY := lY_b (j := 0) k1 k2 k4 k3 ho (Or.inl rfl)
  have bZ := lY_b (j := 1) k1 k2 k4 k3 ho (Or.inr rfl)
  have u1 : tU (trM z) d = lU (FR (z.2.2.1 2) (z.2.2.1 3) d).2 (z.1 11).toInt := (congrArg Int32.toInt (t1.trans (lx_e hF))).trans (z_ofI (by omega))
  have u2 : tY (trM z) d = lY (FR (z.2.2.1 2) (z.2.2.1 3) d).2 (z.1 11).toInt 0 := (congrArg Int32.toInt (t2.trans (lx_e hF))).trans (z_ofI (by omega))
  have u3 : tZ (trM z) d = lY (FR (z.2.2.1 2) (z.2.2.1 3) d).2 (z.1 11).toInt 1 := (congrArg Int32.toInt (t3.trans (lx_e hF))).trans (z_ofI (by omega))
  rw [u1, u2, u3]
  exact lots_A ho hk
theorem LB_M {z : ZS} (hI : MInv z) : LB (trM z) := fun d hd hf => by
  have ho := hI.2.2.1
  have hb := FR_b (tx := z.2.2.1 3) (hI.2.2.2.1 d hd)
  have e1 : (tF (trM z) d).toInt = (FR (z.2.2.1 2) (z.2.2.1 3) d).1 := (congrArg Int32.toInt (trM_Fg hd)).trans (z_ofI (by omega))
  have hF : (FR (z.2.2.1 2) (z.2.2.1 3) d).1 = -1 := e1.symm.trans hf
  have h4 := hI.2.2.2.1 d hd
  have k := pL_ok (B := bX (z.2.2.1 2 d) (TXr (z.2.2.1 3) d)) (n := (z.2.2.1 2 d).toInt) h4.1 (f := 60) (a := 0) (A := ac0) (by decide) hF
  have kA : AD (FR (z.2.2.1 2) (z.2.2.1 3) d).2 := pL_AD AD_0
  have k' : acS (FR (z.2.2.1 2) (z.2.2.1 3) d).2 = zW ∧ 0 < (FR (z.2.2.1 2) (z.2.2.1 3) d).2.2 ∧ zW / (FR (z.2.2.1 2) (z.2.2.1 3) d).2.2 ≤ 24 := k
  obtain ⟨k3, k2, k4⟩ := k'
  obtain ⟨t1, t2, t3⟩ := trM_Lg (z := z) hd
  have bU := lU_b (ot := (z.1 11).toInt) kA k2 k4
  have bY := lY_b (j := 0) kA k2 k4 k3 ho (Or.inl rfl)
  have bZ := lY_b (j := 1) kA k2 k4 k3 ho (Or.inr rfl)
  have u1 : tU (trM z) d = lU (FR (z.2.2.1 2) (z.2.2.1 3) d).2 (z.1 11).toInt := (congrArg Int32.toInt (t1.trans (lx_e hF))).trans (z_ofI (by omega))
  have u2 : tY (trM z) d = lY (FR (z.2.2.1 2) (z.2.2.1 3) d).2 (z.1 11).toInt 0 := (congrArg Int32.toInt (t2.trans (lx_e hF))).trans (z_ofI (by omega))
  have u3 : tZ (trM z) d = lY (FR (z.2.2.1 2) (z.2.2.1 3) d).2 (z.1 11).toInt 1 := (congrArg Int32.toInt (t3.trans (lx_e hF))).trans (z_ofI (by omega))
  rw [u1, u2, u3]
  exact ⟨bU, bY, bZ⟩
theorem yI_1 {tr op ye an ot ha : Int32} (h : ha.toInt = 1) : yI tr op ye an ot ha = yI tr op ye an ot 1 := by
  unfold yI
  rw [if_pos h, if_pos (by decide)]
theorem yI_0 {tr op ye an ot ha : Int32} (h : ¬ ha.toInt = 1) : yI tr op ye an ot ha = yI tr op ye an ot 0 := by
  unfold yI
  rw [if_neg h, if_neg (by decide)]
section
variable {z : ZS} {d : Nat} {f wh tr op ye an : Int32} {w : Int}
theorem says_M {ha : Int32} (ho : 0 ≤ (z.1 11).toInt ∧ (z.1 11).toInt ≤ 24) (hd : d < 4) (ht : tF (trM z) d = f) (hf : f.toInt = -1) (hF : f.toInt = (FR (z.2.2.1 2) (z.2.2.1 3) d).1) (hk : LK (FR (z.2.2.1 2) (z.2.2.1 3) d).2 wh tr op ye an) : frT (yI tr op ye an (z.1 11) ha) (24 * wh.toInt) w = tSy (trM z) d ha.toInt w := by
  obtain ⟨c, e, hc, he, h1, h2, h3⟩ := lots_M ho hd (hF.symm.trans hf) hk
  refine Eq.trans ?_ (tSy_ok ht hf rfl rfl)
  by_cases q : ha.toInt = 1
  · rw [if_pos q, yI_1 q]
    exact (fr_sc hc he h2 h1).symm
  · rw [if_neg q, yI_0 q]
    exact (fr_sc hc he h3 h1).symm
theorem away_M {y : Int} (ho : 0 ≤ (z.1 11).toInt ∧ (z.1 11).toInt ≤ 24) (hd : d < 4) (ht : tF (trM z) d = f) (hf : f.toInt = -1) (hF : f.toInt = (FR (z.2.2.1 2) (z.2.2.1 3) d).1) (hk : LK (FR (z.2.2.1 2) (z.2.2.1 3) d).2 wh tr op ye an) : (gA y (24 * wh.toInt) (yI tr op ye an (z.1 11) 0) = 0 → tl (-3) = tAw (trM z) d y w) ∧ (¬ gA y (24 * wh.toInt) (yI tr op ye an (z.1 11) 0) = 0 → frT (gA y (24 * wh.toInt) (yI tr op ye an (z.1 11) 1)) (gA y (24 * wh.toInt) (yI tr op ye an (z.1 11) 0)) w = tAw (trM z) d y w) := by
  obtain ⟨c, e, hc, he, h1, h2, h3⟩ := lots_M ho hd (hF.symm.trans hf) hk
  have g1 := gA_sc (h := y) h1 h2
  have g0 := gA_sc (h := y) h1 h3
  constructor
  · intro q
    refine tAw_f ht rfl rfl (fun q2 => q2.2 ?_)
    rw [q, Int.mul_zero] at g0
    rcases Int.mul_eq_zero.mp g0 with z1 | z1
    · omega
    · exact z1
  · intro q
    refine Eq.trans (fr_sc hc he g1 g0).symm (tAw_ok ht rfl rfl rfl ⟨hf, fun q2 => q ?_⟩)
    rw [q2, Int.mul_zero] at g0
    rcases Int.mul_eq_zero.mp g0.symm with z1 | z1
    · omega
    · exact z1
theorem exp_M (ho : 0 ≤ (z.1 11).toInt ∧ (z.1 11).toInt ≤ 24) (hd : d < 4) (ht : tF (trM z) d = f) (hf : f.toInt = -1) (hF : f.toInt = (FR (z.2.2.1 2) (z.2.2.1 3) d).1) (hk : LK (FR (z.2.2.1 2) (z.2.2.1 3) d).2 wh tr op ye an) : (opn (24 * wh.toInt) (yI tr op ye an (z.1 11) 1) (yI tr op ye an (z.1 11) 0) → eX (24 * wh.toInt) (yI tr op ye an (z.1 11) 1) (yI tr op ye an (z.1 11) 0) w = tEx (trM z) d w) ∧ (¬ opn (24 * wh.toInt) (yI tr op ye an (z.1 11) 1) (yI tr op ye an (z.1 11) 0) → tl (-3) = tEx (trM z) d w) := by
  obtain ⟨c, e, hc, he, h1, h2, h3⟩ := lots_M ho hd (hF.symm.trans hf) hk
  have k := opn_sc hc he h1 h2 h3
  exact ⟨fun q => Eq.trans (eX_sc hc he h1 h2 h3).symm (tEx_ok ht rfl rfl rfl ⟨hf, k.mpr q⟩), fun q => tEx_f ht rfl rfl rfl (fun q2 => q (k.mp q2.2))⟩
theorem unit_M (ho : 0 ≤ (z.1 11).toInt ∧ (z.1 11).toInt ≤ 24) (hd : d < 4) (ht : tF (trM z) d = f) (hf : f.toInt = -1) (hF : f.toInt = (FR (z.2.2.1 2) (z.2.2.1 3) d).1) (hk : LK (FR (z.2.2.1 2) (z.2.2.1 3) d).2 wh tr op ye an) : uN (yI tr op ye an (z.1 11) 1) (yI tr op ye an (z.1 11) 0) (24 * wh.toInt) = tUn (trM z) d := by
  obtain ⟨k1, k2, k3, k4, -⟩ := id hk
  obtain ⟨t1, -, -⟩ := trM_Lg (z := z) hd
  have bU := lU_b (ot := (z.1 11).toInt) k1 k2 k4
  have u1 : tU (trM z) d = lU (FR (z.2.2.1 2) (z.2.2.1 3) d).2 (z.1 11).toInt := (congrArg Int32.toInt (t1.trans (lx_e (hF.symm.trans hf)))).trans (z_ofI (by omega))
  exact tUn_ok ht hf (u1.trans (unit_A ho hk))
end
