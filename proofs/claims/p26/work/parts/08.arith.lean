theorem zg_step {x y r : Int} (hx : 0 ≤ x) (hy : 0 < y) (hr : r = x.tmod y) : Nat.gcd y.natAbs r.natAbs = Nat.gcd x.natAbs y.natAbs ∧ 0 ≤ r ∧ r < y := by
  rw [Int.tmod_eq_emod_of_nonneg hx] at hr
  have h1 : 0 ≤ x % y := Int.emod_nonneg x (by omega)
  have h2 : x % y < y := Int.emod_lt_of_pos x hy
  obtain ⟨n, rfl⟩ := Int.eq_ofNat_of_zero_le hx
  obtain ⟨m, rfl⟩ := Int.eq_ofNat_of_zero_le (Int.le_of_lt hy)
  refine ⟨?_, by omega, by omega⟩
  have e : r = ((n % m : Nat) : Int) := by rw [hr]; rfl
  rw [e, Int.natAbs_natCast, Int.natAbs_natCast, Int.natAbs_natCast, Nat.gcd_comm m, ← Nat.gcd_rec, Nat.gcd_comm]
theorem zg_pos {x y : Int} (h : y ≠ 0) : 1 ≤ Nat.gcd x.natAbs y.natAbs := Nat.gcd_pos_of_pos_right _ (by omega)
theorem zg_le {x y : Int} (h : y ≠ 0) : Nat.gcd x.natAbs y.natAbs ≤ y.natAbs := Nat.le_of_dvd (by omega) (Nat.gcd_dvd_right _ _)
theorem i64_div2 {x y z : Int64} (e : z = x / y) (h : -4611686018427387904 < x.toInt ∧ x.toInt < 4611686018427387904) : z.toInt = x.toInt.tdiv y.toInt := by
  rw [e]
  exact Jvm.Kit.i64_div (by omega)
theorem zl_mul {x y z : Int64} {a b : Int} (e : z = x * y) (hx : x.toInt = a) (hy : y.toInt = b) (h : -4611686018427387904 < a * b ∧ a * b < 4611686018427387904) : z.toInt = a * b := by
  rw [e, Jvm.Kit.i64_mul (by rw [hx, hy]; omega) (by rw [hx, hy]; omega), hx, hy]
theorem zl_add {x y z : Int64} {a b : Int} (e : z = x + y) (hx : x.toInt = a) (hy : y.toInt = b) (h : -4611686018427387904 < a + b ∧ a + b < 4611686018427387904) : z.toInt = a + b := by
  rw [e, Jvm.Kit.i64_add (by rw [hx, hy]; omega) (by rw [hx, hy]; omega), hx, hy]
theorem zl_sub {x y z : Int64} {a b : Int} (e : z = x - y) (hx : x.toInt = a) (hy : y.toInt = b) (h : -4611686018427387904 < a - b ∧ a - b < 4611686018427387904) : z.toInt = a - b := by
  rw [e, Jvm.Kit.i64_sub (by rw [hx, hy]; omega) (by rw [hx, hy]; omega), hx, hy]
theorem z_mulb {a b A B : Int} (ha : 0 ≤ a ∧ a ≤ A) (hb : 0 ≤ b ∧ b ≤ B) : 0 ≤ a * b ∧ a * b ≤ A * B := ⟨Int.mul_nonneg ha.1 hb.1, Int.mul_le_mul ha.2 hb.2 hb.1 (Int.le_trans ha.1 ha.2)⟩
theorem z_mulab {a b A B : Int} (ha : -A ≤ a ∧ a ≤ A) (hb : -B ≤ b ∧ b ≤ B) (hA : 0 ≤ A) (hB : 0 ≤ B) : -(A * B) ≤ a * b ∧ a * b ≤ A * B := by
  have h1 : (a * b).natAbs ≤ A.natAbs * B.natAbs := by
    rw [Int.natAbs_mul]
    exact Nat.mul_le_mul (by omega) (by omega)
  have h2 : ((A.natAbs * B.natAbs : Nat) : Int) = A * B := by
    rw [Int.natCast_mul]
    rw [Int.natAbs_of_nonneg hA, Int.natAbs_of_nonneg hB]
  omega
theorem zg_end {x y : Int} {G : Nat} (hy : y = 0) (hx : 0 ≤ x) (h : Nat.gcd x.natAbs y.natAbs = G) : x = (G : Int) := by
  rw [hy, Int.natAbs_zero, Nat.gcd_zero_right] at h
  omega
theorem zg_cong {x y x' y' : Int} (hx : x.natAbs = x'.natAbs) (hy : y.natAbs = y'.natAbs) : Nat.gcd x.natAbs y.natAbs = Nat.gcd x'.natAbs y'.natAbs := by rw [hx, hy]
theorem zi_div {x y z : Int32} {a b : Int} (e : z = x / y) (hx : x.toInt = a) (hy : y.toInt = b) (ha : 0 ≤ a) (hb : 1 ≤ b) : z.toInt = a / b ∧ 0 ≤ a / b ∧ a / b ≤ a ∧ (b ≤ a → 1 ≤ a / b) := by
  have h1 : z.toInt = a / b := by
    rw [e, Jvm.Kit.i32_div (by omega), hx, hy, Int.tdiv_eq_ediv_of_nonneg ha]
  have h2 : 0 ≤ a / b := Int.ediv_nonneg ha (by omega)
  have h3 : a / b ≤ a := Int.ediv_le_self b ha
  exact ⟨h1, h2, h3, fun h => Int.le_ediv_of_mul_le (by omega) (by omega)⟩
theorem zg_le2 {x y : Int} : x ≠ 0 → Nat.gcd x.natAbs y.natAbs ≤ x.natAbs := fun h => Nat.le_of_dvd (by omega) (Nat.gcd_dvd_left _ _)
theorem zl_div {x y z : Int64} {a b : Int} (e : z = x / y) (hx : x.toInt = a) (hy : y.toInt = b) (ha : 0 ≤ a ∧ a < 4611686018427387904) (hb : 1 ≤ b) : z.toInt = a / b ∧ 0 ≤ a / b ∧ a / b ≤ a ∧ (b ≤ a → 1 ≤ a / b) := by
  have h1 : z.toInt = a / b := by
    rw [e, Jvm.Kit.i64_div (by omega), hx, hy, Int.tdiv_eq_ediv_of_nonneg ha.1]
  exact ⟨h1, Int.ediv_nonneg ha.1 (by omega), Int.ediv_le_self b ha.1, fun h => Int.le_ediv_of_mul_le (by omega) (by omega)⟩
