def zsp (n a b : Int32) : Int64 := (n.toInt64 * a.toInt64 + (100 - n.toInt64) * b.toInt64) * (2400 - (n.toInt64 * a.toInt64 + (100 - n.toInt64) * b.toInt64))
def zsq (a b : Int32) : Int64 := (a - b).toInt64 * (a - b).toInt64
def zBt (v n a b A B : Int32) : Prop := (a ≤ v * b ∧ 24 - b ≤ v * (24 - a)) ∧ (A = -1 ∨ ¬ zsp n A B * zsq a b ≤ zsp n a b * zsq A B)
noncomputable def zst (v n a b : Int32) (s : Int32 × Int32) : Int32 × Int32 := @ite _ (zBt v n a b s.1 s.2) (Classical.propDecidable _) (a, b) s
noncomputable def zI (v n : Int32) (a : Nat) : Nat → Nat → Int32 × Int32 → Int32 × Int32
  | _, 0, s => s
  | b, f + 1, s => zI v n a (b + 1) f (zst v n (nI a) (nI b) s)
noncomputable def zO (v n : Int32) : Nat → Nat → Int32 × Int32 → Int32 × Int32
  | _, 0, s => s
  | a, f + 1, s => zO v n (a + 1) f (zI v n a 1 (a - 1) s)
noncomputable def zR (v n : Int32) : Int32 × Int32 := zO v n 2 22 (-1, -1)
noncomputable def zBr (v n w : Int32) : Int32 := if (zR v n).1 = -1 then -3 else if w = 0 then (zR v n).1 else (zR v n).2
theorem zI_0 (v n : Int32) (a b : Nat) (s : Int32 × Int32) : zI v n a b 0 s = s := by rw [zI]
theorem zI_s (v n : Int32) (a b f : Nat) (s : Int32 × Int32) : zI v n a b (f + 1) s = zI v n a (b + 1) f (zst v n (nI a) (nI b) s) := by rw [zI]
theorem zO_0 (v n : Int32) (a : Nat) (s : Int32 × Int32) : zO v n a 0 s = s := by rw [zO]
theorem zO_s (v n : Int32) (a f : Nat) (s : Int32 × Int32) : zO v n a (f + 1) s = zO v n (a + 1) f (zI v n a 1 (a - 1) s) := by rw [zO]
theorem zst_p {v n a b A B : Int32} (h : zBt v n a b A B) : zst v n a b (A, B) = (a, b) := by
  unfold zst
  exact if_pos h
theorem zst_n {v n a b A B : Int32} (h : ¬ zBt v n a b A B) : zst v n a b (A, B) = (A, B) := by
  unfold zst
  exact if_neg h
theorem zsq_i : ∀ a, a < 24 → ∀ b, b < 24 → ((nI a - nI b) * (nI a - nI b)).toInt64 = zsq (nI a) (nI b) := by decide +kernel
theorem zsp_i {j a b : Nat} (hj : j ≤ 100) (ha : a < 24) (hb : b < 24) : (nI j * nI a + (100 - nI j) * nI b).toInt64 = (nI j).toInt64 * (nI a).toInt64 + (100 - (nI j).toInt64) * (nI b).toInt64 := by
  have e1 : (100 : Int32) - nI j = nI (100 - j) := pk_sub (a := 100) (b := j) hj
  have e2 : (100 : Int64) - lN j = lN (100 - j) := lN_sub (a := 100) (b := j) hj
  have h1 : j * a < 2300 + 1 := by
    have := Nat.mul_le_mul hj (Nat.le_of_lt_succ ha)
    omega
  have h2 : (100 - j) * b < 2300 + 1 := by
    have := Nat.mul_le_mul (Nat.sub_le 100 j) (Nat.le_of_lt_succ hb)
    omega
  rw [e1, pk_mul, pk_mul, nI_add, nI_l (by omega), nI_l (by omega), nI_l (by omega), nI_l (by omega), e2, lN_mul, lN_mul, lN_add]
theorem z_of100 {n : Int32} (h1 : 0 ≤ n) (h2 : n ≤ 100) : ∃ j : Nat, j ≤ 100 ∧ n = nI j := by
  simp only [zi_le, zi_n0, zi_n100] at h1 h2
  refine ⟨n.toInt.toNat, by omega, ?_⟩
  rw [zi_eq, nI_toInt (by omega)]
  omega
