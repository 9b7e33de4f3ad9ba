theorem z_ix {K j : Nat} (h : j < 60) (hK : K + 60 ≤ 240) : vp_in (nI K + nI j) 240 := by
  rw [nI_add]
  exact vp_in_nI (by omega) (by decide)
