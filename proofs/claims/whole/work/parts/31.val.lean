/-! THE CLASS: what a text gives -/
section Val
variable {E : aE} {d h : Nat} {S : aSt} {σ : Nat → Nat → Int32} {A : Tn}
theorem c_joined {cz : Nat} {xv yv : Int32} (hc : sgK cz = true) (h33 : cz ≠ 33) : Rn E d 6 0 [some (.int (nI cz)), some (.int xv), some (.int yv)] [] S = some (some (.int (jn (nI cz) xv yv)), S) := by
  have L : ∀ az bz : Nat, az < 200 → bz < 200 → (nI az = nI bz ↔ az = bz) := fun az bz h1 h2 => nI_eq (by omega) (by omega)
  have T : ∀ az : Nat, az < 200 → (nI az).toInt = (az : Int) := fun az h1 => nI_toInt (by omega)
  rw [e6_0, e6_1]
  rcases sgK_c hc with rfl | rfl | rfl | rfl | rfl | rfl | rfl | rfl | rfl | rfl
  · exact absurd rfl h33
  · rw [T 38 (by omega)]
    show Rn E d 6 90 _ _ _ = _
    simp (disch := omega) only [jn, L, Nat.reduceEqDiff, if_false, if_true, e6_90, e6_91, e6_94, e6_95, e6_98, e6_99, e6_102, e6_103]
    by_cases hc : xv = nI 0 <;> by_cases hd : yv = nI 0 <;> simp only [hc, hd, not_true_eq_false, not_false_eq_true, if_true, if_false, and_self, and_false, false_and, decide_true, decide_false, bI_t, bI_f]
  · rw [T 42 (by omega)]
    show Rn E d 6 145 _ _ _ = _
    simp (disch := omega) only [jn, L, Nat.reduceEqDiff, if_false, if_true, e6_145, e6_146, e6_147, e6_148]
  · rw [T 43 (by omega)]
    show Rn E d 6 137 _ _ _ = _
    simp (disch := omega) only [jn, L, Nat.reduceEqDiff, if_false, if_true, e6_137, e6_138, e6_139, e6_140]
  · rw [T 45 (by omega)]
    show Rn E d 6 141 _ _ _ = _
    simp (disch := omega) only [jn, L, Nat.reduceEqDiff, if_false, if_true, e6_141, e6_142, e6_143, e6_144]
  · rw [T 47 (by omega)]
    show Rn E d 6 149 _ _ _ = _
    simp (disch := omega) only [jn, L, Nat.reduceEqDiff, if_false, if_true, e6_149, e6_150, e6_153, e6_154, e6_157, e6_158, e6_159, e6_160]
    by_cases hy : yv = nI 0
    · simp only [hy, if_true, not_true_eq_false, if_false, e6_149, e6_150, e6_153, e6_154, e6_157, e6_158, e6_159, e6_160]
    · have h0 : ¬ yv = 0 := by intro z; exact hy (z.trans nI_0.symm)
      simp only [hy, not_false_eq_true, if_true, if_false, e6_149, e6_150, e6_153, e6_154, e6_157, e6_158, e6_159, e6_160, dvK, h0]
  · rw [T 60 (by omega)]
    show Rn E d 6 104 _ _ _ = _
    simp (disch := omega) only [jn, L, Nat.reduceEqDiff, if_false, if_true, e6_104, e6_105, e6_106, e6_109, e6_110, e6_113, e6_114]
    by_cases hc : xv < yv
    · have hc2 : ¬ yv ≤ xv := Int32.not_le.mpr hc
      simp only [hc, hc2, if_false, decide_true, bI_t]
    · have hc2 : yv ≤ xv := Int32.not_lt.mp hc
      simp only [hc, hc2, if_true, decide_false, bI_f]
  · rw [T 61 (by omega)]
    show Rn E d 6 115 _ _ _ = _
    simp (disch := omega) only [jn, L, Nat.reduceEqDiff, if_false, if_true, e6_115, e6_116, e6_117, e6_120, e6_121, e6_124, e6_125]
    by_cases hc : xv = yv
    · simp only [hc, not_true_eq_false, if_false, decide_true, bI_t]
    · simp only [hc, not_false_eq_true, if_true, decide_false, bI_f]
  · rw [T 62 (by omega)]
    show Rn E d 6 126 _ _ _ = _
    simp (disch := omega) only [jn, L, Nat.reduceEqDiff, if_false, if_true, e6_126, e6_127, e6_128, e6_131, e6_132, e6_135, e6_136]
    by_cases hc : yv < xv
    · have hc2 : ¬ xv ≤ yv := Int32.not_le.mpr hc
      simp only [hc, hc2, if_false, decide_true, bI_t]
    · have hc2 : xv ≤ yv := Int32.not_lt.mp hc
      simp only [hc, hc2, if_true, decide_false, bI_f]
  · rw [T 124 (by omega)]
    show Rn E d 6 76 _ _ _ = _
    simp (disch := omega) only [jn, L, Nat.reduceEqDiff, if_false, if_true, e6_76, e6_77, e6_80, e6_81, e6_84, e6_85, e6_88, e6_89]
    by_cases hc : xv = nI 0 <;> by_cases hd : yv = nI 0 <;> simp only [hc, hd, not_true_eq_false, not_false_eq_true, if_true, if_false, or_self, or_false, or_true, true_or, false_or, decide_true, decide_false, bI_t, bI_f]
theorem isW_n {tz : Nat} (ht : tz < 15) : isW (4 + 2 * tz) := by
  unfold isW
  omega
theorem nI_m3 {nz : Nat} (hn : nz < 2 ^ 31) : ¬ nI nz < (-3) := by
  rw [Int32.lt_iff_toInt_lt, nI_toInt hn, show (-3 : Int32).toInt = -3 from by decide +kernel]
  omega
theorem nI_nn {nz : Nat} (hn : nz < 2 ^ 31) : ¬ nI nz < nI 0 := by rw [nI_ltI hn (by omega)]; omega
theorem sg_c {cz : Nat} (hc : sgK cz = true) : (-nI cz) < (-3) ∧ - -nI cz = nI cz ∧ (cz ≠ 33 → ¬ -nI cz = (-33)) := by
  rcases sgK_c hc with rfl | rfl | rfl | rfl | rfl | rfl | rfl | rfl | rfl | rfl <;> decide +kernel
theorem v_num {tz lz kz sz nz : Nat} {av bv cv : Int32} {σ1 : Nat → Nat → Int32} {w8 : Option Value} (ht : tz < 15) (hl : lz ≤ 96) (hk : kz < lz) (hs : sz ≤ kz) (e3 : σ1 (4 + 2 * tz) 1 = nI lz) (f2 : σ1 (4 + 2 * tz + 1) kz = nI nz) (hn : nz < 2 ^ 31) :
    Rn E (d + 1) 5 14 [some (.ref 1), some (.int (nI tz)), some (.int av), some (.int bv), some (.int cv), some (.ref (4 + 2 * tz)), some (.int (nI sz)), some (.int (nI kz)), w8] [] (shp, σ1) = Rn E (d + 1) 5 14 [some (.ref 1), some (.int (nI tz)), some (.int av), some (.int bv), some (.int cv), some (.ref (4 + 2 * tz)), some (.int (nI (sz + 1))), some (.int (nI (kz + 1))), some (.int (nI nz))] [] (shp, su σ1 3 sz (nI nz)) := by
  have h1 : ¬ lz ≤ kz := by omega
  have h2 : ¬ 96 ≤ sz := by omega
  conv => lhs; rw [e5_14]
  simp (disch := omega) only [e5_0, e5_1, e5_4, e5_5, e5_6, e5_8, e5_9, e5_11, e5_12, e5_16, e5_18, e5_21, e5_24, e5_26, e5_29, e5_31, e5_32, e5_34, e5_36, e5_38, e5_41, e5_43, e5_45, e5_48, e5_49, e5_52, e5_54, e5_56, e5_59, e5_61, e5_64, e5_66, e5_67, e5_70, e5_71, e5_74, e5_76, e5_78, e5_81, e5_82, e5_85, e5_87, e5_88, e5_91, e5_94, e5_96, e5_98, e5_101, e5_103, e5_106, e5_107, e5_110, e5_112, e5_113, e5_114, e5_115, e5_118, e5_120, e5_121, e5_122, e5_123, e5_126, e5_127, e5_130, e5_131, e5_132, e5_135, e5_137, e5_138, e5_141, e5_144, e5_145, e5_148, e5_150, e5_151, e5_152, e5_154, e5_155, e5_156, e5_159, e5_161, e5_162, e5_163, e5_164, e5_165, e5_168, e5_170, e5_171, e5_174, e5_175, e5_178, e5_181, e5_182, e5_185, e5_186, e5_187, ↓reduceIte, inb_n, ix_n, if_true, ne_eq, Nat.reduceEqDiff, not_false_eq_true, clK_s, tl_s, tl_n, clr_i, clr_n, clr_a, nI_add, gW_1 (isW_n ht), gW_0 (isW_n ht), aW_1 (isW_n ht), e3, f2, nI_leI, h1, h2, if_false, nI_m3, nI_nn, gL_1, s_3]
theorem v_nam {tz lz kz sz : Nat} {av bv cv cd xv : Int32} {σ1 : Nat → Nat → Int32} {w8 : Option Value} (ht : tz < 15) (hl : lz ≤ 96) (hk : kz < lz) (hs : sz ≤ kz) (e3 : σ1 (4 + 2 * tz) 1 = nI lz) (f2 : σ1 (4 + 2 * tz + 1) kz = cd) (hc : (cd = (-1) ∧ xv = av) ∨ (cd = (-2) ∧ xv = bv) ∨ (cd = (-3) ∧ xv = cv)) :
    Rn E (d + 1) 5 14 [some (.ref 1), some (.int (nI tz)), some (.int av), some (.int bv), some (.int cv), some (.ref (4 + 2 * tz)), some (.int (nI sz)), some (.int (nI kz)), w8] [] (shp, σ1) = Rn E (d + 1) 5 14 [some (.ref 1), some (.int (nI tz)), some (.int av), some (.int bv), some (.int cv), some (.ref (4 + 2 * tz)), some (.int (nI (sz + 1))), some (.int (nI (kz + 1))), some (.int cd)] [] (shp, su σ1 3 sz xv) := by
  have h1 : ¬ lz ≤ kz := by omega
  have h2 : ¬ 96 ≤ sz := by omega
  have m1 : ¬ (-1 : Int32) < (-3) := by decide +kernel
  have m2 : ¬ (-2 : Int32) < (-3) := by decide +kernel
  have m3 : ¬ (-3 : Int32) < (-3) := by decide +kernel
  have n1 : (-1 : Int32) < nI 0 := by decide +kernel
  have n2 : (-2 : Int32) < nI 0 := by decide +kernel
  have n3 : (-3 : Int32) < nI 0 := by decide +kernel
  have p2 : ¬ (-2 : Int32) = (-1) := by decide +kernel
  have p3 : ¬ (-3 : Int32) = (-1) := by decide +kernel
  have p4 : ¬ (-3 : Int32) = (-2) := by decide +kernel
  conv => lhs; rw [e5_14]
  rcases hc with ⟨rfl, rfl⟩ | ⟨rfl, rfl⟩ | ⟨rfl, rfl⟩
  · simp (disch := omega) only [e5_0, e5_1, e5_4, e5_5, e5_6, e5_8, e5_9, e5_11, e5_12, e5_16, e5_18, e5_21, e5_24, e5_26, e5_29, e5_31, e5_32, e5_34, e5_36, e5_38, e5_41, e5_43, e5_45, e5_48, e5_49, e5_52, e5_54, e5_56, e5_59, e5_61, e5_64, e5_66, e5_67, e5_70, e5_71, e5_74, e5_76, e5_78, e5_81, e5_82, e5_85, e5_87, e5_88, e5_91, e5_94, e5_96, e5_98, e5_101, e5_103, e5_106, e5_107, e5_110, e5_112, e5_113, e5_114, e5_115, e5_118, e5_120, e5_121, e5_122, e5_123, e5_126, e5_127, e5_130, e5_131, e5_132, e5_135, e5_137, e5_138, e5_141, e5_144, e5_145, e5_148, e5_150, e5_151, e5_152, e5_154, e5_155, e5_156, e5_159, e5_161, e5_162, e5_163, e5_164, e5_165, e5_168, e5_170, e5_171, e5_174, e5_175, e5_178, e5_181, e5_182, e5_185, e5_186, e5_187, ↓reduceIte, inb_n, ix_n, if_true, ne_eq, Nat.reduceEqDiff, not_false_eq_true, clK_s, tl_s, tl_n, clr_i, clr_n, clr_a, nI_add, gW_1 (isW_n ht), gW_0 (isW_n ht), aW_1 (isW_n ht), e3, f2, nI_leI, h1, h2, if_false, m1, n1, not_true_eq_false, gL_1, s_3]
  · simp (disch := omega) only [e5_0, e5_1, e5_4, e5_5, e5_6, e5_8, e5_9, e5_11, e5_12, e5_16, e5_18, e5_21, e5_24, e5_26, e5_29, e5_31, e5_32, e5_34, e5_36, e5_38, e5_41, e5_43, e5_45, e5_48, e5_49, e5_52, e5_54, e5_56, e5_59, e5_61, e5_64, e5_66, e5_67, e5_70, e5_71, e5_74, e5_76, e5_78, e5_81, e5_82, e5_85, e5_87, e5_88, e5_91, e5_94, e5_96, e5_98, e5_101, e5_103, e5_106, e5_107, e5_110, e5_112, e5_113, e5_114, e5_115, e5_118, e5_120, e5_121, e5_122, e5_123, e5_126, e5_127, e5_130, e5_131, e5_132, e5_135, e5_137, e5_138, e5_141, e5_144, e5_145, e5_148, e5_150, e5_151, e5_152, e5_154, e5_155, e5_156, e5_159, e5_161, e5_162, e5_163, e5_164, e5_165, e5_168, e5_170, e5_171, e5_174, e5_175, e5_178, e5_181, e5_182, e5_185, e5_186, e5_187, ↓reduceIte, inb_n, ix_n, if_true, ne_eq, Nat.reduceEqDiff, not_false_eq_true, clK_s, tl_s, tl_n, clr_i, clr_n, clr_a, nI_add, gW_1 (isW_n ht), gW_0 (isW_n ht), aW_1 (isW_n ht), e3, f2, nI_leI, h1, h2, if_false, m2, n2, p2, not_true_eq_false, gL_1, s_3]
  · simp (disch := omega) only [e5_0, e5_1, e5_4, e5_5, e5_6, e5_8, e5_9, e5_11, e5_12, e5_16, e5_18, e5_21, e5_24, e5_26, e5_29, e5_31, e5_32, e5_34, e5_36, e5_38, e5_41, e5_43, e5_45, e5_48, e5_49, e5_52, e5_54, e5_56, e5_59, e5_61, e5_64, e5_66, e5_67, e5_70, e5_71, e5_74, e5_76, e5_78, e5_81, e5_82, e5_85, e5_87, e5_88, e5_91, e5_94, e5_96, e5_98, e5_101, e5_103, e5_106, e5_107, e5_110, e5_112, e5_113, e5_114, e5_115, e5_118, e5_120, e5_121, e5_122, e5_123, e5_126, e5_127, e5_130, e5_131, e5_132, e5_135, e5_137, e5_138, e5_141, e5_144, e5_145, e5_148, e5_150, e5_151, e5_152, e5_154, e5_155, e5_156, e5_159, e5_161, e5_162, e5_163, e5_164, e5_165, e5_168, e5_170, e5_171, e5_174, e5_175, e5_178, e5_181, e5_182, e5_185, e5_186, e5_187, ↓reduceIte, inb_n, ix_n, if_true, ne_eq, Nat.reduceEqDiff, not_false_eq_true, clK_s, tl_s, tl_n, clr_i, clr_n, clr_a, nI_add, gW_1 (isW_n ht), gW_0 (isW_n ht), aW_1 (isW_n ht), e3, f2, nI_leI, h1, h2, if_false, m3, n3, p3, p4, not_true_eq_false, gL_1, s_3]
theorem v_not {tz lz kz sz : Nat} {av bv cv : Int32} {σ1 : Nat → Nat → Int32} {w8 : Option Value} (ht : tz < 15) (hl : lz ≤ 96) (hk : kz < lz) (hs : sz + 1 ≤ kz) (e3 : σ1 (4 + 2 * tz) 1 = nI lz) (f2 : σ1 (4 + 2 * tz + 1) kz = -nI 33) :
    Rn E (d + 1) 5 14 [some (.ref 1), some (.int (nI tz)), some (.int av), some (.int bv), some (.int cv), some (.ref (4 + 2 * tz)), some (.int (nI (sz + 1))), some (.int (nI kz)), w8] [] (shp, σ1) = Rn E (d + 1) 5 14 [some (.ref 1), some (.int (nI tz)), some (.int av), some (.int bv), some (.int cv), some (.ref (4 + 2 * tz)), some (.int (nI (sz + 1))), some (.int (nI (kz + 1))), some (.int (-nI 33))] [] (shp, su σ1 3 sz (bI (decide (σ1 3 sz = nI 0)))) := by
  have h1 : ¬ lz ≤ kz := by omega
  have h2 : ¬ sz + 1 ≤ 0 := by omega
  have m1 : (-33 : Int32) < (-3) := by decide +kernel
  have m2 : (-nI 33) = (-33) := by decide +kernel
  conv => lhs; rw [e5_14]
  simp (disch := omega) only [e5_16, e5_18, e5_21, e5_24, e5_26, e5_29, e5_31, e5_32, e5_34, e5_36, e5_38, e5_41, e5_43, e5_45, e5_48, e5_49, e5_52, e5_54, e5_56, e5_59, e5_61, e5_64, e5_66, e5_67, e5_70, e5_71, e5_74, e5_76, e5_78, e5_81, e5_82, e5_85, e5_87, e5_88, e5_91, e5_94, e5_96, e5_98, e5_101, e5_103, e5_106, e5_107, e5_110, e5_112, e5_113, e5_114, e5_115, e5_118, e5_120, e5_121, e5_122, e5_123, ↓reduceIte, inb_n, ix_n, if_true, ne_eq, Nat.reduceEqDiff, not_false_eq_true, clK_s, tl_s, tl_n, clr_i, clr_n, clr_a, nI_add, gW_1 (isW_n ht), gW_0 (isW_n ht), aW_1 (isW_n ht), e3, f2, nI_leI, h1, h2, if_false, m1, m2, not_true_eq_false, gL_1, a_3, nI_pred, pk_sub, Nat.add_sub_cancel]
  by_cases hz : σ1 3 sz = nI 0
  · simp (disch := omega) only [hz, not_true_eq_false, if_false, e5_126, e5_127, e5_130, e5_131, e5_132, e5_135, e5_137, e5_138, e5_141, e5_144, e5_145, e5_148, e5_150, e5_151, e5_152, e5_154, e5_155, e5_156, e5_159, e5_161, e5_162, e5_163, e5_164, e5_165, e5_168, e5_170, e5_171, e5_174, e5_175, e5_178, ↓reduceIte, inb_n, ix_n, if_true, ne_eq, Nat.reduceEqDiff, not_false_eq_true, clK_s, tl_s, tl_n, clr_i, clr_n, clr_a, nI_add, s_3, decide_true, bI_t]
  · simp (disch := omega) only [hz, not_false_eq_true, if_true, e5_126, e5_127, e5_130, e5_131, e5_132, e5_135, e5_137, e5_138, e5_141, e5_144, e5_145, e5_148, e5_150, e5_151, e5_152, e5_154, e5_155, e5_156, e5_159, e5_161, e5_162, e5_163, e5_164, e5_165, e5_168, e5_170, e5_171, e5_174, e5_175, e5_178, ↓reduceIte, inb_n, ix_n, if_true, ne_eq, Nat.reduceEqDiff, not_false_eq_true, clK_s, tl_s, tl_n, clr_i, clr_n, clr_a, nI_add, s_3, decide_false, bI_f]
theorem v_sgn {tz lz kz sz cz : Nat} {av bv cv : Int32} {σ1 : Nat → Nat → Int32} {w8 : Option Value} (ht : tz < 15) (hl : lz ≤ 96) (hk : kz < lz) (hs : sz + 2 ≤ kz) (e3 : σ1 (4 + 2 * tz) 1 = nI lz) (f2 : σ1 (4 + 2 * tz + 1) kz = -nI cz) (hc : sgK cz = true) (h33 : cz ≠ 33) :
    Rn E (d + 1) 5 14 [some (.ref 1), some (.int (nI tz)), some (.int av), some (.int bv), some (.int cv), some (.ref (4 + 2 * tz)), some (.int (nI (sz + 2))), some (.int (nI kz)), w8] [] (shp, σ1) = Rn E (d + 1) 5 14 [some (.ref 1), some (.int (nI tz)), some (.int av), some (.int bv), some (.int cv), some (.ref (4 + 2 * tz)), some (.int (nI (sz + 1))), some (.int (nI (kz + 1))), some (.int (-nI cz))] [] (shp, su σ1 3 sz (jn (nI cz) (σ1 3 sz) (σ1 3 (sz + 1)))) := by
  have h1 : ¬ lz ≤ kz := by omega
  have h2 : ¬ sz + 2 ≤ 1 := by omega
  obtain ⟨m1, m2, m3⟩ := sg_c hc
  have m3 := m3 h33
  conv => lhs; rw [e5_14]
  simp (disch := omega) only [e5_0, e5_1, e5_4, e5_5, e5_6, e5_8, e5_9, e5_11, e5_12, e5_16, e5_18, e5_21, e5_24, e5_26, e5_29, e5_31, e5_32, e5_34, e5_36, e5_38, e5_41, e5_43, e5_45, e5_48, e5_49, e5_52, e5_54, e5_56, e5_59, e5_61, e5_64, e5_66, e5_67, e5_70, e5_71, e5_74, e5_76, e5_78, e5_81, e5_82, e5_85, e5_87, e5_88, e5_91, e5_94, e5_96, e5_98, e5_101, e5_103, e5_106, e5_107, e5_110, e5_112, e5_113, e5_114, e5_115, e5_118, e5_120, e5_121, e5_122, e5_123, e5_126, e5_127, e5_130, e5_131, e5_132, e5_135, e5_137, e5_138, e5_141, e5_144, e5_145, e5_148, e5_150, e5_151, e5_152, e5_154, e5_155, e5_156, e5_159, e5_161, e5_162, e5_163, e5_164, e5_165, e5_168, e5_170, e5_171, e5_174, e5_175, e5_178, e5_181, e5_182, e5_185, e5_186, e5_187, ↓reduceIte, inb_n, ix_n, if_true, ne_eq, Nat.reduceEqDiff, not_false_eq_true, clK_s, tl_s, tl_n, clr_i, clr_n, clr_a, nI_add, gW_1 (isW_n ht), gW_0 (isW_n ht), aW_1 (isW_n ht), e3, f2, nI_leI, h1, h2, if_false, m1, m2, m3, gL_1, a_3, s_3, pk_m1, nI_pred, pk_sub, Nat.add_sub_cancel, c_joined hc h33]
theorem nm_c {key lz : Nat} {av bv cv : Int32} (hk : key < 3) (hn : nmK key lz = true) : (nmX key (nI lz) = (-1) ∧ nv key av bv cv (nI lz) = av) ∨ (nmX key (nI lz) = (-2) ∧ nv key av bv cv (nI lz) = bv) ∨ (nmX key (nI lz) = (-3) ∧ nv key av bv cv (nI lz) = cv) := by
  have L : ∀ az bz : Nat, az < 200 → bz < 200 → (nI az = nI bz ↔ az = bz) := fun az bz h1 h2 => nI_eq (by omega) (by omega)
  match key, hk with
  | 0, _ =>
    simp only [nmK, if_true, Bool.or_eq_true, beq_iff_eq] at hn
    rcases hn with (rfl | rfl) | rfl <;> simp (disch := omega) only [nmX, nv, L, Nat.reduceEqDiff, if_true, if_false, true_and, and_self, true_or, or_true]
  | 1, _ =>
    simp only [nmK, Nat.reduceEqDiff, if_false, if_true, Bool.or_eq_true, beq_iff_eq] at hn
    rcases hn with rfl | rfl <;> simp (disch := omega) only [nmX, nv, L, Nat.reduceEqDiff, if_true, if_false, true_and, and_self, true_or, or_true]
  | 2, _ =>
    simp only [nmK, Nat.reduceEqDiff, if_false, Bool.or_eq_true, beq_iff_eq] at hn
    rcases hn with rfl | rfl <;> simp (disch := omega) only [nmX, nv, L, Nat.reduceEqDiff, if_true, if_false, true_and, and_self, true_or, or_true]
theorem c_value_l {tz : Nat} {tx : Tx} {av bv cv : Int32} (hT : TRx σ tz tx) (hok : okTx tx) (ht : tz < 15) : ∀ (todo : List (Nat × Int32)) (kz : Nat) (st : List Int32) (σ1 : Nat → Nat → Int32) (w8 : Option Value), tx.2.2.drop kz = todo → kz ≤ tx.2.2.length → st.length ≤ kz → dpt todo st.length = true → PL (σ1 3) st → Fr [3] σ σ1 →
    ∃ σ2, Rn E (d + 1) 5 14 [some (.ref 1), some (.int (nI tz)), some (.int av), some (.int bv), some (.int cv), some (.ref (4 + 2 * tz)), some (.int (nI st.length)), some (.int (nI kz)), w8] [] (shp, σ1) = some (some (.int ((evL (nv tx.1 av bv cv) todo st).headD 0)), (shp, σ2)) ∧ Fr [3] σ σ2 := by
  intro todo
  induction todo with
  | nil =>
    intro kz st σ1 w8 hd hk hs hdp hp hf
    have h1 : tx.2.2.length ≤ kz := List.drop_eq_nil_iff.mp hd
    have h2 := hok.2.1
    have e94 : σ1 (4 + 2 * tz) = σ (4 + 2 * tz) := hf _ (by simp; omega)
    have e3 := hT.1
    refine ⟨σ1, ?_, hf⟩
    have hlen : st.length = 1 := by simpa [dpt] using hdp
    match st, hlen with
    | [xv], _ =>
      have hx : σ1 3 0 = xv := hp.1
      simp (disch := omega) only [e5_0, e5_1, e5_4, e5_5, e5_6, e5_8, e5_9, e5_11, e5_12, e5_14, e5_16, e5_18, e5_21, e5_24, e5_26, e5_29, e5_31, e5_32, e5_34, e5_36, e5_38, e5_41, e5_43, e5_45, e5_48, e5_49, e5_52, e5_54, e5_56, e5_59, e5_61, e5_64, e5_66, e5_67, e5_70, e5_71, e5_74, e5_76, e5_78, e5_81, e5_82, e5_85, e5_87, e5_88, e5_91, e5_94, e5_96, e5_98, e5_101, e5_103, e5_106, e5_107, e5_110, e5_112, e5_113, e5_114, e5_115, e5_118, e5_120, e5_121, e5_122, e5_123, e5_126, e5_127, e5_130, e5_131, e5_132, e5_135, e5_137, e5_138, e5_141, e5_144, e5_145, e5_148, e5_150, e5_151, e5_152, e5_154, e5_155, e5_156, e5_159, e5_161, e5_162, e5_163, e5_164, e5_165, e5_168, e5_170, e5_171, e5_174, e5_175, e5_178, e5_181, e5_182, e5_185, e5_186, e5_187, ↓reduceIte, inb_n, ix_n, if_true, ne_eq, Nat.reduceEqDiff, not_false_eq_true, clK_s, tl_s, tl_n, clr_i, clr_n, clr_a, nI_add, gW_1 (isW_n ht), e94, e3, nI_leI, h1, gL_1, a_3, hx, evL, List.headD_cons]
  | cons pp todo ih =>
    intro kz st σ1 w8 hd hk hs hdp hp hf
    have hlt : kz < tx.2.2.length := by
      rcases Nat.lt_or_ge kz tx.2.2.length with h | h
      · exact h
      · rw [List.drop_eq_nil_iff.mpr h] at hd; cases hd
    have hget : tx.2.2[kz]? = some pp := by
      have := List.getElem?_drop (xs := tx.2.2) (i := kz) (j := 0)
      rw [hd] at this
      simpa using this.symm
    have hd2 : tx.2.2.drop (kz + 1) = todo := by
      rw [← List.drop_drop, hd]
      rfl
    obtain ⟨wz, pv⟩ := pp
    have h2 := hok.2.1
    have e94 : σ1 (4 + 2 * tz) = σ (4 + 2 * tz) := hf _ (by simp; omega)
    have e95 : σ1 (4 + 2 * tz + 1) = σ (4 + 2 * tz + 1) := hf _ (by simp; omega)
    have e3 := hT.1
    rw [← e94] at e3
    have f2 := hT.2.2.2 kz wz pv hget
    rw [← e95] at f2
    rcases hok.2.2.2.2 (wz, pv) (List.mem_of_getElem? hget) with ⟨h0, nz, hn, hv⟩ | ⟨h0, lz, hn, hv⟩ | ⟨h0, cz, hn, hv⟩
    · have h0 : wz = 0 := h0
      subst h0
      have hv : pv = nI nz := hv
      have f3 : σ1 (4 + 2 * tz + 1) kz = nI nz := by rw [f2, hv]; rfl
      rw [v_num ht h2 hlt hs e3 f3 (by omega), ← hv]
      exact ih (kz + 1) (pv :: st) _ _ hd2 (by omega) (by simp only [List.length_cons]; omega) (by simpa [dpt] using hdp) (by rw [su_rf]; exact PL_push hp) (hf.su (by decide))
    · have h0 : wz = 1 := h0
      subst h0
      have hv : pv = nI lz := hv
      have f3 : σ1 (4 + 2 * tz + 1) kz = nmX tx.1 (nI lz) := by rw [f2, hv]; rfl
      rw [v_nam (xv := nv tx.1 av bv cv (nI lz)) ht h2 hlt hs e3 f3 (nm_c hok.1 hn)]
      have hev : evL (nv tx.1 av bv cv) ((1, pv) :: todo) st = evL (nv tx.1 av bv cv) todo (nv tx.1 av bv cv (nI lz) :: st) := by
        rw [evL_c]
        simp only [ev1, hv, Nat.reduceEqDiff, if_false]
      rw [hev]
      exact ih (kz + 1) (_ :: st) _ _ hd2 (by omega) (by simp only [List.length_cons]; omega) (by simpa [dpt] using hdp) (by rw [su_rf]; exact PL_push hp) (hf.su (by decide))
    · have h0 : wz = 2 := h0
      subst h0
      have hv : pv = nI cz := hv
      have f3 : σ1 (4 + 2 * tz + 1) kz = -nI cz := by rw [f2, hv]; rfl
      by_cases h33 : cz = 33
      · have hv3 : pv = nI 33 := by rw [hv, h33]
        rw [h33] at f3
        have hd9 : 1 ≤ st.length ∧ dpt todo st.length = true := by simpa [dpt, hv3] using hdp
        match st, hd9 with
        | xv :: r, hd9 =>
          have hx : σ1 3 r.length = xv := hp.1
          simp only [List.length_cons] at hs hd9
          rw [List.length_cons, v_not ht h2 hlt hs e3 f3, hx]
          have hev : evL (nv tx.1 av bv cv) ((2, pv) :: todo) (xv :: r) = evL (nv tx.1 av bv cv) todo (bI (decide (xv = nI 0)) :: r) := by
            rw [evL_c]
            simp only [ev1, hv3, if_true]
          rw [hev]
          exact ih (kz + 1) (bI (decide (xv = nI 0)) :: r) _ _ hd2 (by omega) (by simp only [List.length_cons]; omega) hd9.2 (by rw [su_rf]; exact PL_push hp.2) (hf.su (by decide))
      · have hne : ¬ pv = nI 33 := fun z => h33 ((nI_eq (by rcases sgK_c hn with h | h | h | h | h | h | h | h | h | h <;> omega) (by omega)).mp (hv.symm.trans z))
        have hd9 : 2 ≤ st.length ∧ dpt todo (st.length - 1) = true := by simpa [dpt, hne] using hdp
        match st, hd9 with
        | [xv], hd9 => exact absurd hd9.1 (by simp)
        | yv :: xv :: r, hd9 =>
          have hx : σ1 3 r.length = xv := hp.2.1
          have hy : σ1 3 (r.length + 1) = yv := hp.1
          simp only [List.length_cons] at hs hd9
          rw [List.length_cons, List.length_cons, v_sgn ht h2 hlt hs e3 f3 hn h33, hx, hy, ← hv]
          have hev : evL (nv tx.1 av bv cv) ((2, pv) :: todo) (yv :: xv :: r) = evL (nv tx.1 av bv cv) todo (jn pv xv yv :: r) := by
            rw [evL_c]
            simp only [ev1, hne, if_true, if_false]
          rw [hev]
          exact ih (kz + 1) (jn pv xv yv :: r) _ _ hd2 (by omega) (by simp only [List.length_cons]; omega) hd9.2 (by rw [su_rf]; exact PL_push hp.2.2) (hf.su (by decide))
theorem c_value {tz : Nat} {tx : Tx} {av bv cv : Int32} (hT : TRx σ tz tx) (hok : okTx tx) (ht : tz < 15) :
    ∃ σ2, Rn E (d + 1) 5 0 [some (.ref 1), some (.int (nI tz)), some (.int av), some (.int bv), some (.int cv), none, none, none, none] [] (shp, σ) = some (some (.int (evT (nv tx.1 av bv cv) tx.2.2)), (shp, σ2)) ∧ Fr [3] σ σ2 := by
  simp (disch := omega) only [e5_0, e5_1, e5_4, e5_5, e5_6, e5_8, e5_9, e5_11, e5_12, gL_0, q_2, clr_i, clr_n, clr_a]
  exact c_value_l hT hok ht tx.2.2 0 [] σ none rfl (Nat.zero_le _) (Nat.le_refl _) hok.2.2.1 trivial Fr.rf
end Val
