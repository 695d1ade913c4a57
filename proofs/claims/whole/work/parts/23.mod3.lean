/-! THE REFERENCE: texts, pulls, looks -/
section Mod3
variable {E : aE} {d : Nat} {S : aSt} {σ : Nat → Nat → Int32} {A : Tn}
theorem k_textAt {tz : Nat} : Rn E d 112 0 [some (.ref 93), some (.int (nI tz))] [] S = some (some (.int (nI (51 + 200 * tz))), S) := by
  simp only [e112_0, e112_2, e112_5, e112_6, e112_7, e112_8, pk_mul, nI_add]
theorem swZ_n {cz lo df : Nat} {ts : List Nat} {K : Nat → Option aRs} (hc : cz < 2 ^ 31) (hl : lo + ts.length < 2 ^ 31) : swZ (nI cz) lo ts df K = K (if lo ≤ cz then ts.getD (cz - lo) df else df) := by
  rw [swZ_eq _ _ _ _ _ hl, nI_toInt hc]
  by_cases h1 : lo ≤ cz
  · by_cases h2 : lo + ts.length ≤ cz
    · rw [if_pos (Or.inr (by omega)), if_pos h1, List.getD_eq_getElem?_getD, List.getElem?_eq_none (by omega)]; rfl
    · rw [if_neg (by omega), if_pos h1, show ((cz : Int) - lo).toNat = cz - lo by omega]
  · rw [if_pos (Or.inl (by omega)), if_neg h1]
theorem sgK_c {cz : Nat} (h : sgK cz = true) : cz = 33 ∨ cz = 38 ∨ cz = 42 ∨ cz = 43 ∨ cz = 45 ∨ cz = 47 ∨ cz = 60 ∨ cz = 61 ∨ cz = 62 ∨ cz = 124 := by
  simp only [sgK, Bool.or_eq_true, beq_iff_eq] at h; omega
theorem k_joined {cz : Nat} {xv yv : Int32} (hc : sgK cz = true) (h33 : cz ≠ 33) : Rn E d 189 0 [some (.int (nI cz)), some (.int xv), some (.int yv)] [] S = some (some (.int (jn (nI cz) xv yv)), S) := by
  have L : ∀ az bz : Nat, az < 200 → bz < 200 → (nI az = nI bz ↔ az = bz) := fun az bz h1 h2 => nI_eq (by omega) (by omega)
  rw [e189_0, e189_1]
  rcases sgK_c hc with rfl | rfl | rfl | rfl | rfl | rfl | rfl | rfl | rfl | rfl
  · exact absurd rfl h33
  · rw [swZ_n (by decide) (by decide)]
    show Rn E d 189 183 _ _ _ = _
    simp (disch := omega) only [jn, L, Nat.reduceEqDiff, if_false, if_true, e189_116, e189_117, e189_118, e189_119, e189_120, e189_121, e189_122, e189_123, e189_124, e189_125, e189_126, e189_127, e189_128, e189_129, e189_132, e189_133, e189_136, e189_137, e189_138, e189_141, e189_142, e189_143, e189_146, e189_147, e189_148, e189_149, e189_150, e189_151, e189_152, e189_155, e189_156, e189_159, e189_160, e189_161, e189_162, e189_163, e189_166, e189_167, e189_170, e189_171, e189_172, e189_173, e189_174, e189_177, e189_178, e189_181, e189_182, e189_183, e189_184, e189_187, e189_188, e189_191, e189_192, e189_195, e189_196, e189_197, e189_198, e189_201, e189_202, e189_205, e189_206, e189_209, e189_210]
    by_cases hc : xv = nI 0 <;> by_cases hd : yv = nI 0 <;> simp only [hc, hd, not_true_eq_false, not_false_eq_true, if_true, if_false, and_self, and_false, false_and, decide_true, decide_false, bI_t, bI_f]
  · rw [swZ_n (by decide) (by decide)]
    show Rn E d 189 124 _ _ _ = _
    simp (disch := omega) only [jn, L, Nat.reduceEqDiff, if_false, if_true, e189_116, e189_117, e189_118, e189_119, e189_120, e189_121, e189_122, e189_123, e189_124, e189_125, e189_126, e189_127, e189_128, e189_129, e189_132, e189_133, e189_136, e189_137, e189_138, e189_141, e189_142, e189_143, e189_146, e189_147, e189_148, e189_149, e189_150, e189_151, e189_152, e189_155, e189_156, e189_159, e189_160, e189_161, e189_162, e189_163, e189_166, e189_167, e189_170, e189_171, e189_172, e189_173, e189_174, e189_177, e189_178, e189_181, e189_182, e189_183, e189_184, e189_187, e189_188, e189_191, e189_192, e189_195, e189_196, e189_197, e189_198, e189_201, e189_202, e189_205, e189_206, e189_209, e189_210]
  · rw [swZ_n (by decide) (by decide)]
    show Rn E d 189 116 _ _ _ = _
    simp (disch := omega) only [jn, L, Nat.reduceEqDiff, if_false, if_true, e189_116, e189_117, e189_118, e189_119, e189_120, e189_121, e189_122, e189_123, e189_124, e189_125, e189_126, e189_127, e189_128, e189_129, e189_132, e189_133, e189_136, e189_137, e189_138, e189_141, e189_142, e189_143, e189_146, e189_147, e189_148, e189_149, e189_150, e189_151, e189_152, e189_155, e189_156, e189_159, e189_160, e189_161, e189_162, e189_163, e189_166, e189_167, e189_170, e189_171, e189_172, e189_173, e189_174, e189_177, e189_178, e189_181, e189_182, e189_183, e189_184, e189_187, e189_188, e189_191, e189_192, e189_195, e189_196, e189_197, e189_198, e189_201, e189_202, e189_205, e189_206, e189_209, e189_210]
  · rw [swZ_n (by decide) (by decide)]
    show Rn E d 189 120 _ _ _ = _
    simp (disch := omega) only [jn, L, Nat.reduceEqDiff, if_false, if_true, e189_116, e189_117, e189_118, e189_119, e189_120, e189_121, e189_122, e189_123, e189_124, e189_125, e189_126, e189_127, e189_128, e189_129, e189_132, e189_133, e189_136, e189_137, e189_138, e189_141, e189_142, e189_143, e189_146, e189_147, e189_148, e189_149, e189_150, e189_151, e189_152, e189_155, e189_156, e189_159, e189_160, e189_161, e189_162, e189_163, e189_166, e189_167, e189_170, e189_171, e189_172, e189_173, e189_174, e189_177, e189_178, e189_181, e189_182, e189_183, e189_184, e189_187, e189_188, e189_191, e189_192, e189_195, e189_196, e189_197, e189_198, e189_201, e189_202, e189_205, e189_206, e189_209, e189_210]
  · rw [swZ_n (by decide) (by decide)]
    show Rn E d 189 128 _ _ _ = _
    simp (disch := omega) only [jn, L, Nat.reduceEqDiff, if_false, if_true, e189_128, e189_129, e189_132, e189_133, e189_136, e189_137, e189_138, e189_141, e189_142, e189_143, e189_146, e189_147]
    by_cases hy : yv = nI 0
    · simp only [hy, if_true, not_true_eq_false, if_false, e189_149]
    · by_cases hm : yv = (-1)
      · simp only [hm, not_true_eq_false, if_true, if_false, div_m1, e189_149]
        rw [if_pos (by decide +kernel), if_neg (by decide +kernel)]
      · have h0 : ¬ yv = 0 := by intro z; exact hy (z.trans nI_0.symm)
        simp only [hy, hm, not_false_eq_true, if_true, if_false, e189_148, dvK, h0, e189_149]
  · rw [swZ_n (by decide) (by decide)]
    show Rn E d 189 150 _ _ _ = _
    simp (disch := omega) only [jn, L, Nat.reduceEqDiff, if_false, if_true, e189_116, e189_117, e189_118, e189_119, e189_120, e189_121, e189_122, e189_123, e189_124, e189_125, e189_126, e189_127, e189_128, e189_129, e189_132, e189_133, e189_136, e189_137, e189_138, e189_141, e189_142, e189_143, e189_146, e189_147, e189_148, e189_149, e189_150, e189_151, e189_152, e189_155, e189_156, e189_159, e189_160, e189_161, e189_162, e189_163, e189_166, e189_167, e189_170, e189_171, e189_172, e189_173, e189_174, e189_177, e189_178, e189_181, e189_182, e189_183, e189_184, e189_187, e189_188, e189_191, e189_192, e189_195, e189_196, e189_197, e189_198, e189_201, e189_202, e189_205, e189_206, e189_209, e189_210]
    by_cases hc : xv < yv
    · have hc2 : ¬ yv ≤ xv := Int32.not_le.mpr hc
      simp only [hc, hc2, if_false, decide_true, bI_t]
    · have hc2 : yv ≤ xv := Int32.not_lt.mp hc
      simp only [hc, hc2, if_true, decide_false, bI_f]
  · rw [swZ_n (by decide) (by decide)]
    show Rn E d 189 172 _ _ _ = _
    simp (disch := omega) only [jn, L, Nat.reduceEqDiff, if_false, if_true, e189_116, e189_117, e189_118, e189_119, e189_120, e189_121, e189_122, e189_123, e189_124, e189_125, e189_126, e189_127, e189_128, e189_129, e189_132, e189_133, e189_136, e189_137, e189_138, e189_141, e189_142, e189_143, e189_146, e189_147, e189_148, e189_149, e189_150, e189_151, e189_152, e189_155, e189_156, e189_159, e189_160, e189_161, e189_162, e189_163, e189_166, e189_167, e189_170, e189_171, e189_172, e189_173, e189_174, e189_177, e189_178, e189_181, e189_182, e189_183, e189_184, e189_187, e189_188, e189_191, e189_192, e189_195, e189_196, e189_197, e189_198, e189_201, e189_202, e189_205, e189_206, e189_209, e189_210]
    by_cases hc : xv = yv
    · simp only [hc, not_true_eq_false, if_false, decide_true, bI_t]
    · simp only [hc, not_false_eq_true, if_true, decide_false, bI_f]
  · rw [swZ_n (by decide) (by decide)]
    show Rn E d 189 161 _ _ _ = _
    simp (disch := omega) only [jn, L, Nat.reduceEqDiff, if_false, if_true, e189_116, e189_117, e189_118, e189_119, e189_120, e189_121, e189_122, e189_123, e189_124, e189_125, e189_126, e189_127, e189_128, e189_129, e189_132, e189_133, e189_136, e189_137, e189_138, e189_141, e189_142, e189_143, e189_146, e189_147, e189_148, e189_149, e189_150, e189_151, e189_152, e189_155, e189_156, e189_159, e189_160, e189_161, e189_162, e189_163, e189_166, e189_167, e189_170, e189_171, e189_172, e189_173, e189_174, e189_177, e189_178, e189_181, e189_182, e189_183, e189_184, e189_187, e189_188, e189_191, e189_192, e189_195, e189_196, e189_197, e189_198, e189_201, e189_202, e189_205, e189_206, e189_209, e189_210]
    by_cases hc : yv < xv
    · have hc2 : ¬ xv ≤ yv := Int32.not_le.mpr hc
      simp only [hc, hc2, if_false, decide_true, bI_t]
    · have hc2 : xv ≤ yv := Int32.not_lt.mp hc
      simp only [hc, hc2, if_true, decide_false, bI_f]
  · rw [swZ_n (by decide) (by decide)]
    show Rn E d 189 197 _ _ _ = _
    simp (disch := omega) only [jn, L, Nat.reduceEqDiff, if_false, if_true, e189_116, e189_117, e189_118, e189_119, e189_120, e189_121, e189_122, e189_123, e189_124, e189_125, e189_126, e189_127, e189_128, e189_129, e189_132, e189_133, e189_136, e189_137, e189_138, e189_141, e189_142, e189_143, e189_146, e189_147, e189_148, e189_149, e189_150, e189_151, e189_152, e189_155, e189_156, e189_159, e189_160, e189_161, e189_162, e189_163, e189_166, e189_167, e189_170, e189_171, e189_172, e189_173, e189_174, e189_177, e189_178, e189_181, e189_182, e189_183, e189_184, e189_187, e189_188, e189_191, e189_192, e189_195, e189_196, e189_197, e189_198, e189_201, e189_202, e189_205, e189_206, e189_209, e189_210]
    by_cases hc : xv = nI 0 <;> by_cases hd : yv = nI 0 <;> simp only [hc, hd, not_true_eq_false, not_false_eq_true, if_true, if_false, or_self, or_false, or_true, true_or, false_or, decide_true, decide_false, bI_t, bI_f]
theorem evL_c {nm : Int32 → Int32} {pp : Nat × Int32} {r : List (Nat × Int32)} {st : List Int32} : evL nm (pp :: r) st = evL nm r (ev1 nm pp st) := rfl
theorem w_num {tz lz kz sz : Nat} {σ1 : Nat → Nat → Int32} {pv : Int32} {w4 w5 : Option Value} (ht : tz < 14) (hl : lz ≤ 96) (hk : kz < lz) (hs : sz ≤ kz) (e3 : σ1 94 (53 + 200 * tz) = nI lz) (f2 : σ1 94 (56 + 200 * tz + 2 * kz) = pv) (hw4 : clr w4 = w4) (f1 : σ1 94 (55 + 200 * tz + 2 * kz) = nI 0) : Rn E (d + 1) 190 4 [some (.ref 93), some (.int (nI tz)), some (.int (nI sz)), some (.int (nI kz)), w4, w5] [] (shp, σ1) = Rn E (d + 1) 190 4 [some (.ref 93), some (.int (nI tz)), some (.int (nI (sz + 1))), some (.int (nI (kz + 1))), some (.int (nI 0)), some (.int pv)] [] (shp, su σ1 109 sz pv) := by
  have h1 : ¬ lz ≤ kz := by omega
  have e5 : (51 + 200 * tz + 2) = 53 + 200 * tz := by omega
  have e6 : (51 + 200 * tz + 4 + 2 * kz) = 55 + 200 * tz + 2 * kz := by omega
  have e7 : (55 + 200 * tz + 2 * kz + 1) = 56 + 200 * tz + 2 * kz := by omega
  have L : ∀ az bz : Nat, az < 200 → bz < 200 → (nI az = nI bz ↔ az = bz) := fun az bz h1 h2 => nI_eq (by omega) (by omega)
  conv => lhs; rw [e190_4]
  simp (disch := omega) only [e190_0, e190_1, e190_2, e190_3, e190_5, e190_6, e190_9, e190_10, e190_11, e190_14, e190_15, e190_16, e190_17, e190_20, e190_21, e190_24, e190_25, e190_26, e190_29, e190_30, e190_31, e190_32, e190_33, e190_34, e190_35, e190_36, e190_38, e190_39, e190_42, e190_43, e190_44, e190_47, e190_48, e190_49, e190_50, e190_51, e190_52, e190_53, e190_54, e190_55, e190_56, e190_58, e190_60, e190_61, e190_64, e190_65, e190_68, e190_69, e190_71, e190_74, e190_76, e190_79, e190_80, e190_83, e190_85, e190_86, e190_87, e190_90, e190_93, e190_95, e190_97, e190_100, e190_101, e190_104, e190_105, e190_106, e190_107, e190_108, e190_111, e190_112, e190_113, e190_114, e190_115, e190_118, e190_119, e190_122, e190_123, e190_124, e190_127, e190_130, e190_131, e190_134, e190_135, e190_136, e190_137, e190_139, e190_140, e190_143, e190_144, e190_145, e190_146, e190_147, e190_148, e190_151, e190_152, e190_153, e190_156, e190_157, e190_160, e190_163, e190_164, e190_167, e190_168, e190_169, gM_0, a_94, inb_n, ix_n, if_true, ne_eq, Nat.reduceEqDiff, not_false_eq_true, vM, clK_s, tl_s, tl_n, clr_i, clr_n, clr_a, nI_add, k_textAt, e5, e6, e7, e3, f1, f2, nI_leI, h1, if_false, pk_mul, L, gM_27, gM_26, Nat.reduceEqDiff, s_109, a_109, hw4, not_true_eq_false]
theorem w_nam {tz lz kz sz : Nat} {σ1 : Nat → Nat → Int32} {pv : Int32} {w4 w5 : Option Value} (ht : tz < 14) (hl : lz ≤ 96) (hk : kz < lz) (hs : sz ≤ kz) (e3 : σ1 94 (53 + 200 * tz) = nI lz) (f2 : σ1 94 (56 + 200 * tz + 2 * kz) = pv) (hw4 : clr w4 = w4) (f1 : σ1 94 (55 + 200 * tz + 2 * kz) = nI 1) (nz : Nat) (hn : nz < 128) (hv : pv = nI nz) : Rn E (d + 1) 190 4 [some (.ref 93), some (.int (nI tz)), some (.int (nI sz)), some (.int (nI kz)), w4, w5] [] (shp, σ1) = Rn E (d + 1) 190 4 [some (.ref 93), some (.int (nI tz)), some (.int (nI (sz + 1))), some (.int (nI (kz + 1))), some (.int (nI 1)), some (.int pv)] [] (shp, su σ1 109 sz (σ1 108 nz)) := by
  have h1 : ¬ lz ≤ kz := by omega
  have e5 : (51 + 200 * tz + 2) = 53 + 200 * tz := by omega
  have e6 : (51 + 200 * tz + 4 + 2 * kz) = 55 + 200 * tz + 2 * kz := by omega
  have e7 : (55 + 200 * tz + 2 * kz + 1) = 56 + 200 * tz + 2 * kz := by omega
  have L : ∀ az bz : Nat, az < 200 → bz < 200 → (nI az = nI bz ↔ az = bz) := fun az bz h1 h2 => nI_eq (by omega) (by omega)
  conv => lhs; rw [e190_4]
  subst hv
  simp (disch := omega) only [e190_0, e190_1, e190_2, e190_3, e190_5, e190_6, e190_9, e190_10, e190_11, e190_14, e190_15, e190_16, e190_17, e190_20, e190_21, e190_24, e190_25, e190_26, e190_29, e190_30, e190_31, e190_32, e190_33, e190_34, e190_35, e190_36, e190_38, e190_39, e190_42, e190_43, e190_44, e190_47, e190_48, e190_49, e190_50, e190_51, e190_52, e190_53, e190_54, e190_55, e190_56, e190_58, e190_60, e190_61, e190_64, e190_65, e190_68, e190_69, e190_71, e190_74, e190_76, e190_79, e190_80, e190_83, e190_85, e190_86, e190_87, e190_90, e190_93, e190_95, e190_97, e190_100, e190_101, e190_104, e190_105, e190_106, e190_107, e190_108, e190_111, e190_112, e190_113, e190_114, e190_115, e190_118, e190_119, e190_122, e190_123, e190_124, e190_127, e190_130, e190_131, e190_134, e190_135, e190_136, e190_137, e190_139, e190_140, e190_143, e190_144, e190_145, e190_146, e190_147, e190_148, e190_151, e190_152, e190_153, e190_156, e190_157, e190_160, e190_163, e190_164, e190_167, e190_168, e190_169, gM_0, a_94, inb_n, ix_n, if_true, ne_eq, Nat.reduceEqDiff, not_false_eq_true, vM, clK_s, tl_s, tl_n, clr_i, clr_n, clr_a, nI_add, k_textAt, e5, e6, e7, e3, f1, f2, nI_leI, h1, if_false, pk_mul, L, gM_27, gM_26, Nat.reduceEqDiff, s_109, a_109, hw4, a_108]
theorem w_not {tz lz kz sz : Nat} {σ1 : Nat → Nat → Int32} {pv : Int32} {w4 w5 : Option Value} (ht : tz < 14) (hl : lz ≤ 96) (hk : kz < lz) (hs : sz + 1 ≤ kz) (e3 : σ1 94 (53 + 200 * tz) = nI lz) (f2 : σ1 94 (56 + 200 * tz + 2 * kz) = pv) (hw4 : clr w4 = w4) (f1 : σ1 94 (55 + 200 * tz + 2 * kz) = nI 2) (hv : pv = nI 33) : Rn E (d + 1) 190 4 [some (.ref 93), some (.int (nI tz)), some (.int (nI (sz + 1))), some (.int (nI kz)), w4, w5] [] (shp, σ1) = Rn E (d + 1) 190 4 [some (.ref 93), some (.int (nI tz)), some (.int (nI (sz + 1))), some (.int (nI (kz + 1))), some (.int (nI 2)), some (.int pv)] [] (shp, su σ1 109 sz (bI (decide (σ1 109 sz = nI 0)))) := by
  have h1 : ¬ lz ≤ kz := by omega
  have e5 : (51 + 200 * tz + 2) = 53 + 200 * tz := by omega
  have e6 : (51 + 200 * tz + 4 + 2 * kz) = 55 + 200 * tz + 2 * kz := by omega
  have e7 : (55 + 200 * tz + 2 * kz + 1) = 56 + 200 * tz + 2 * kz := by omega
  have L : ∀ az bz : Nat, az < 200 → bz < 200 → (nI az = nI bz ↔ az = bz) := fun az bz h1 h2 => nI_eq (by omega) (by omega)
  conv => lhs; rw [e190_4]
  subst hv
  simp (disch := omega) only [e190_0, e190_1, e190_2, e190_3, e190_5, e190_6, e190_9, e190_10, e190_11, e190_14, e190_15, e190_16, e190_17, e190_20, e190_21, e190_24, e190_25, e190_26, e190_29, e190_30, e190_31, e190_32, e190_33, e190_34, e190_35, e190_36, e190_38, e190_39, e190_42, e190_43, e190_44, e190_47, e190_48, e190_49, e190_50, e190_51, e190_52, e190_53, e190_54, e190_55, e190_56, e190_58, e190_60, e190_61, e190_64, e190_65, e190_68, e190_69, e190_71, e190_74, e190_76, e190_79, e190_80, e190_83, e190_85, e190_86, e190_87, e190_90, e190_93, e190_95, e190_97, e190_100, e190_101, e190_104, e190_105, e190_106, e190_107, e190_108, e190_111, e190_112, e190_113, e190_114, e190_115, e190_118, e190_119, e190_122, e190_123, e190_124, e190_127, e190_130, e190_131, e190_134, e190_135, e190_136, e190_137, e190_139, e190_140, e190_143, e190_144, e190_145, e190_146, e190_147, e190_148, e190_151, e190_152, e190_153, e190_156, e190_157, e190_160, e190_163, e190_164, e190_167, e190_168, e190_169, gM_0, a_94, inb_n, ix_n, if_true, ne_eq, Nat.reduceEqDiff, not_false_eq_true, vM, clK_s, tl_s, tl_n, clr_i, clr_n, clr_a, nI_add, k_textAt, e5, e6, e7, e3, f1, f2, nI_leI, h1, if_false, pk_mul, L, gM_27, gM_26, Nat.reduceEqDiff, s_109, a_109, hw4, not_true_eq_false, nI_pred, pk_sub, Nat.add_sub_cancel]
  by_cases hz : σ1 109 sz = nI 0
  · simp (disch := omega) only [hz, not_true_eq_false, if_false, e190_118, e190_119, e190_122, e190_123, e190_124, e190_127, e190_130, e190_131, e190_134, e190_135, e190_136, e190_137, e190_139, e190_140, e190_143, e190_144, e190_145, e190_146, e190_147, e190_148, e190_151, e190_152, e190_153, e190_156, e190_157, e190_160, gM_0, a_94, inb_n, ix_n, if_true, ne_eq, Nat.reduceEqDiff, not_false_eq_true, vM, clK_s, tl_s, tl_n, clr_i, clr_n, clr_a, nI_add, s_109, decide_true, bI_t]
  · simp (disch := omega) only [hz, not_false_eq_true, if_true, e190_118, e190_119, e190_122, e190_123, e190_124, e190_127, e190_130, e190_131, e190_134, e190_135, e190_136, e190_137, e190_139, e190_140, e190_143, e190_144, e190_145, e190_146, e190_147, e190_148, e190_151, e190_152, e190_153, e190_156, e190_157, e190_160, gM_0, a_94, inb_n, ix_n, if_true, ne_eq, Nat.reduceEqDiff, not_false_eq_true, vM, clK_s, tl_s, tl_n, clr_i, clr_n, clr_a, nI_add, s_109, decide_false, bI_f]
theorem w_sgn {tz lz kz sz : Nat} {σ1 : Nat → Nat → Int32} {pv : Int32} {w4 w5 : Option Value} (ht : tz < 14) (hl : lz ≤ 96) (hk : kz < lz) (hs : sz + 2 ≤ kz) (e3 : σ1 94 (53 + 200 * tz) = nI lz) (f2 : σ1 94 (56 + 200 * tz + 2 * kz) = pv) (hw4 : clr w4 = w4) (f1 : σ1 94 (55 + 200 * tz + 2 * kz) = nI 2) (cz : Nat) (hc : sgK cz = true) (h33 : cz ≠ 33) (hv : pv = nI cz) : Rn E (d + 1) 190 4 [some (.ref 93), some (.int (nI tz)), some (.int (nI (sz + 2))), some (.int (nI kz)), w4, w5] [] (shp, σ1) = Rn E (d + 1) 190 4 [some (.ref 93), some (.int (nI tz)), some (.int (nI (sz + 1))), some (.int (nI (kz + 1))), some (.int (nI 2)), some (.int pv)] [] (shp, su σ1 109 sz (jn pv (σ1 109 sz) (σ1 109 (sz + 1)))) := by
  have h1 : ¬ lz ≤ kz := by omega
  have e5 : (51 + 200 * tz + 2) = 53 + 200 * tz := by omega
  have e6 : (51 + 200 * tz + 4 + 2 * kz) = 55 + 200 * tz + 2 * kz := by omega
  have e7 : (55 + 200 * tz + 2 * kz + 1) = 56 + 200 * tz + 2 * kz := by omega
  have L : ∀ az bz : Nat, az < 200 → bz < 200 → (nI az = nI bz ↔ az = bz) := fun az bz h1 h2 => nI_eq (by omega) (by omega)
  conv => lhs; rw [e190_4]
  subst hv
  have hne : ¬ nI cz = nI 33 := fun z => h33 ((L cz 33 (by rcases sgK_c hc with h | h | h | h | h | h | h | h | h | h <;> omega) (by omega)).mp z)
  simp (disch := omega) only [e190_0, e190_1, e190_2, e190_3, e190_5, e190_6, e190_9, e190_10, e190_11, e190_14, e190_15, e190_16, e190_17, e190_20, e190_21, e190_24, e190_25, e190_26, e190_29, e190_30, e190_31, e190_32, e190_33, e190_34, e190_35, e190_36, e190_38, e190_39, e190_42, e190_43, e190_44, e190_47, e190_48, e190_49, e190_50, e190_51, e190_52, e190_53, e190_54, e190_55, e190_56, e190_58, e190_60, e190_61, e190_64, e190_65, e190_68, e190_69, e190_71, e190_74, e190_76, e190_79, e190_80, e190_83, e190_85, e190_86, e190_87, e190_90, e190_93, e190_95, e190_97, e190_100, e190_101, e190_104, e190_105, e190_106, e190_107, e190_108, e190_111, e190_112, e190_113, e190_114, e190_115, e190_118, e190_119, e190_122, e190_123, e190_124, e190_127, e190_130, e190_131, e190_134, e190_135, e190_136, e190_137, e190_139, e190_140, e190_143, e190_144, e190_145, e190_146, e190_147, e190_148, e190_151, e190_152, e190_153, e190_156, e190_157, e190_160, e190_163, e190_164, e190_167, e190_168, e190_169, gM_0, a_94, inb_n, ix_n, if_true, ne_eq, Nat.reduceEqDiff, not_false_eq_true, vM, clK_s, tl_s, tl_n, clr_i, clr_n, clr_a, nI_add, k_textAt, e5, e6, e7, e3, f1, f2, nI_leI, h1, if_false, pk_mul, L, gM_27, gM_26, Nat.reduceEqDiff, s_109, a_109, hw4, hne, not_true_eq_false, pk_m1, nI_pred, pk_sub, Nat.add_sub_cancel, k_joined hc h33]
theorem k_worked_l {tz : Nat} {tx : Tx} (hT : MTx (σ 94) tz tx) (hok : okTx tx) (ht : tz < 14) : ∀ (todo : List (Nat × Int32)) (kz : Nat) (st : List Int32) (σ1 : Nat → Nat → Int32) (w4 w5 : Option Value), tx.2.2.drop kz = todo → kz ≤ tx.2.2.length → st.length ≤ kz → dpt todo st.length = true → PL (σ1 109) st → Fr [109] σ σ1 → clr w4 = w4 →
    ∃ σ2, Rn E (d + 1) 190 4 [some (.ref 93), some (.int (nI tz)), some (.int (nI st.length)), some (.int (nI kz)), w4, w5] [] (shp, σ1) = some (some (.int ((evL (fun lv => σ 108 (ix lv)) todo st).headD 0)), (shp, σ2)) ∧ Fr [109] σ σ2 := by
  intro todo
  induction todo with
  | nil =>
    intro kz st σ1 w4 w5 hd hk hs hdp hp hf hw
    have h1 : tx.2.2.length ≤ kz := List.drop_eq_nil_iff.mp hd
    have h2 := hok.2.1
    have e94 : σ1 94 = σ 94 := hf 94 (by decide)
    have e3 := hT.2.2.1
    have e5 : (51 + 200 * tz + 2) = 53 + 200 * tz := by omega
    refine ⟨σ1, ?_, hf⟩
    have hlen : st.length = 1 := by simpa [dpt] using hdp
    match st, hlen with
    | [xv], _ =>
      have hx : σ1 109 0 = xv := hp.1
      simp (disch := omega) only [e190_0, e190_1, e190_2, e190_3, e190_4, e190_5, e190_6, e190_9, e190_10, e190_11, e190_14, e190_15, e190_16, e190_17, e190_20, e190_21, e190_24, e190_25, e190_26, e190_29, e190_30, e190_31, e190_32, e190_33, e190_34, e190_35, e190_36, e190_38, e190_39, e190_42, e190_43, e190_44, e190_47, e190_48, e190_49, e190_50, e190_51, e190_52, e190_53, e190_54, e190_55, e190_56, e190_58, e190_60, e190_61, e190_64, e190_65, e190_68, e190_69, e190_71, e190_74, e190_76, e190_79, e190_80, e190_83, e190_85, e190_86, e190_87, e190_90, e190_93, e190_95, e190_97, e190_100, e190_101, e190_104, e190_105, e190_106, e190_107, e190_108, e190_111, e190_112, e190_113, e190_114, e190_115, e190_118, e190_119, e190_122, e190_123, e190_124, e190_127, e190_130, e190_131, e190_134, e190_135, e190_136, e190_137, e190_139, e190_140, e190_143, e190_144, e190_145, e190_146, e190_147, e190_148, e190_151, e190_152, e190_153, e190_156, e190_157, e190_160, e190_163, e190_164, e190_167, e190_168, e190_169, gM_0, a_94, inb_n, ix_n, if_true, ne_eq, Nat.reduceEqDiff, not_false_eq_true, vM, clK_s, tl_s, tl_n, clr_i, clr_n, clr_a, nI_add, k_textAt, e5, e94, e3, nI_leI, h1, gM_27, a_109, hx, evL, List.headD_cons]
  | cons pp todo ih =>
    intro kz st σ1 w4 w5 hd hk hs hdp hp hf hw
    have hlt : kz < tx.2.2.length := by
      rcases Nat.lt_or_ge kz tx.2.2.length with h | h
      · exact h
      · rw [List.drop_eq_nil_iff.mpr h] at hd; cases hd
    have hget : tx.2.2[kz]? = some pp := by
      have := List.getElem?_drop (xs := tx.2.2) (i := kz) (j := 0)
      rw [hd] at this
      simpa using this.symm
    have hd2 : tx.2.2.drop (kz + 1) = todo := by
      rw [← List.drop_drop, hd]
      rfl
    obtain ⟨wz, pv⟩ := pp
    have h2 := hok.2.1
    have e94 : σ1 94 = σ 94 := hf 94 (by decide)
    have e108 : σ1 108 = σ 108 := hf 108 (by decide)
    have e3 := hT.2.2.1
    rw [← e94] at e3
    obtain ⟨f1, f2⟩ := hT.2.2.2 kz wz pv hget
    rw [← e94] at f1 f2
    rcases hok.2.2.2.2 (wz, pv) (List.mem_of_getElem? hget) with ⟨h0, nz, hn, hv⟩ | ⟨h0, lz, hn, hv⟩ | ⟨h0, cz, hn, hv⟩
    · have h0 : wz = 0 := h0
      subst h0
      rw [w_num ht h2 hlt hs e3 f2 hw f1]
      exact ih (kz + 1) (pv :: st) _ _ _ hd2 (by omega) (by simp only [List.length_cons]; omega) (by simpa [dpt] using hdp) (by rw [su_rf]; exact PL_push hp) (hf.su (by decide)) rfl
    · have h0 : wz = 1 := h0
      subst h0
      have hv : pv = nI lz := hv
      have hl := nmK_lt hn
      rw [w_nam ht h2 hlt hs e3 f2 hw f1 lz hl hv, e108]
      have hev : evL (fun lv => σ 108 (ix lv)) ((1, pv) :: todo) st = evL (fun lv => σ 108 (ix lv)) todo (σ 108 lz :: st) := by
        rw [evL_c]
        simp only [ev1, hv, ix_n (show lz < 2 ^ 31 by omega), Nat.reduceEqDiff, if_false]
      rw [hev]
      exact ih (kz + 1) (σ 108 lz :: st) _ _ _ hd2 (by omega) (by simp only [List.length_cons]; omega) (by simpa [dpt] using hdp) (by rw [su_rf]; exact PL_push hp) (hf.su (by decide)) rfl
    · have h0 : wz = 2 := h0
      subst h0
      have hv : pv = nI cz := hv
      by_cases h33 : cz = 33
      · have hv3 : pv = nI 33 := by rw [hv, h33]
        have hd9 : 1 ≤ st.length ∧ dpt todo st.length = true := by simpa [dpt, hv3] using hdp
        match st, hd9 with
        | xv :: r, hd9 =>
          have hx : σ1 109 r.length = xv := hp.1
          simp only [List.length_cons] at hs hd9
          rw [List.length_cons, w_not ht h2 hlt hs e3 f2 hw f1 hv3, hx]
          have hev : evL (fun lv => σ 108 (ix lv)) ((2, pv) :: todo) (xv :: r) = evL (fun lv => σ 108 (ix lv)) todo (bI (decide (xv = nI 0)) :: r) := by
            rw [evL_c]
            simp only [ev1, hv3, if_true]
          rw [hev]
          exact ih (kz + 1) (bI (decide (xv = nI 0)) :: r) _ _ _ hd2 (by omega) (by simp only [List.length_cons]; omega) hd9.2 (by rw [su_rf]; exact PL_push hp.2) (hf.su (by decide)) rfl
      · have hne : ¬ pv = nI 33 := fun z => h33 ((nI_eq (by rcases sgK_c hn with h | h | h | h | h | h | h | h | h | h <;> omega) (by omega)).mp (hv.symm.trans z))
        have hd9 : 2 ≤ st.length ∧ dpt todo (st.length - 1) = true := by simpa [dpt, hne] using hdp
        match st, hd9 with
        | [xv], hd9 => exact absurd hd9.1 (by simp)
        | yv :: xv :: r, hd9 =>
          have hx : σ1 109 r.length = xv := hp.2.1
          have hy : σ1 109 (r.length + 1) = yv := hp.1
          simp only [List.length_cons] at hs hd9
          rw [List.length_cons, List.length_cons, w_sgn ht h2 hlt hs e3 f2 hw f1 cz hn h33 hv, hx, hy]
          have hev : evL (fun lv => σ 108 (ix lv)) ((2, pv) :: todo) (yv :: xv :: r) = evL (fun lv => σ 108 (ix lv)) todo (jn pv xv yv :: r) := by
            rw [evL_c]
            simp only [ev1, hne, if_true, if_false]
          rw [hev]
          exact ih (kz + 1) (jn pv xv yv :: r) _ _ _ hd2 (by omega) (by simp only [List.length_cons]; omega) hd9.2 (by rw [su_rf]; exact PL_push hp.2.2) (hf.su (by decide)) rfl
theorem k_worked {tz : Nat} {tx : Tx} (hT : MTx (σ 94) tz tx) (hok : okTx tx) (ht : tz < 14) :
    ∃ σ2, Rn E (d + 1) 190 0 [some (.ref 93), some (.int (nI tz)), none, none, none, none] [] (shp, σ) = some (some (.int (evT (fun lv => σ 108 (ix lv)) tx.2.2)), (shp, σ2)) ∧ Fr [109] σ σ2 := by
  simp only [e190_0, e190_1, e190_2, e190_3, clr_i, clr_n]
  exact k_worked_l hT hok ht tx.2.2 0 [] σ none none rfl (Nat.zero_le _) (Nat.le_refl _) hok.2.2.1 trivial Fr.rf rfl
end Mod3
