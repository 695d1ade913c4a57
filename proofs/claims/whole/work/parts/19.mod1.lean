/-! THE REFERENCE: small methods -/
theorem k_isIn {E : aE} {d : Nat} {S : aSt} {x1 x2 x3 : Int64} : Rn E d 107 0 [some (.long x1), none, some (.long x2), none, some (.long x3), none] [] S = some (some (.int (bI (decide (x2 ≤ x1 ∧ x1 ≤ x3)))), S) := by
  simp only [e107_0, e107_1, e107_2, e107_3, e107_6, e107_7, e107_9, e107_10, e107_13, e107_14, e107_17, e107_18, cmp_lt, cmp_gt, rz_1, rz_0]
  by_cases h1 : x1 < x2
  · have h2 : ¬ x2 ≤ x1 := Int64.not_le.mpr h1
    simp only [h1, h2, if_true, false_and, decide_false]
  · have h2 : x2 ≤ x1 := Int64.not_lt.mp h1
    by_cases h3 : x3 < x1
    · have h4 : ¬ x1 ≤ x3 := Int64.not_le.mpr h3
      simp only [h1, h3, h4, if_true, if_false, and_false, decide_false]
    · have h4 : x1 ≤ x3 := Int64.not_lt.mp h3
      simp only [h1, h3, h2, h4, if_false, and_self, decide_true]
theorem k_of {E : aE} {d : Nat} {σ : Nat → Nat → Int32} {kz wz : Nat} (h1 : kz < 8) (h2 : wz < 5) : Rn E d 113 0 [some (.ref 93), some (.int (nI kz)), some (.int (nI wz))] [] (shp, σ) = some (some (.int (σ 94 (10 + 5 * kz + wz))), (shp, σ)) := by
  simp (disch := omega) only [e113_0, e113_1, e113_4, e113_6, e113_7, e113_8, e113_9, e113_10, e113_11, e113_12, e113_13, gM_0, a_94, nI_add, pk_mul, inb_n, ix_n, if_true, ne_eq, Nat.reduceEqDiff, not_false_eq_true]
