/-! LAYING INTO SLOTS -/
def zCl (σ : Nat → Nat → Int32) (k : Nat) : Prop := σ (78 + 3 * k) 1 = σ 100 k ∧ (∃ n, n < 4 ∧ σ 100 k = nI n) ∧ (σ 100 k = nI 1 → (∃ c, c < 6 ∧ σ 101 k = nI c) ∧ σ (78 + 3 * k) 2 = σ 101 k ∧ σ 102 k = woK (σ 101 k) (σ (78 + 3 * k) 3)) ∧ (σ 100 k = nI 2 → σ (78 + 3 * k + 1) 2 = σ 103 k ∧ (∃ n, n ≤ 24 ∧ σ 103 k = nI n) ∧ ∀ i, i < 24 → σ (78 + 3 * k + 1 + 1) i = σ 104 (24 * k + i)) ∧ (σ 100 k = nI 3 → σ (78 + 3 * k) 4 = σ 101 k)
theorem RLz_at {σ σ2 : Nat → Nat → Int32} {k : Nat} (hZ : RLz σ) (hk : k < 5) (h1 : ∀ a, 78 ≤ a → a < 93 → a ≠ 78 + 3 * k → a ≠ 78 + 3 * k + 1 → a ≠ 78 + 3 * k + 1 + 1 → σ2 a = σ a) (h2 : ∀ a, 100 ≤ a → a ≤ 103 → ∀ j, j ≠ k → σ2 a j = σ a j) (h3 : ∀ j, (j < 24 * k ∨ 24 * k + 24 ≤ j) → σ2 104 j = σ 104 j) (hn : zCl σ2 k) : RLz σ2 := by
  intro j hj
  by_cases hq : j = k
  · rw [hq]; exact hn
  · obtain ⟨z1, z2, z3, z4, z5⟩ := hZ j hj
    rw [h1 (78 + 3 * j) (by omega) (by omega) (by omega) (by omega) (by omega), h1 (78 + 3 * j + 1) (by omega) (by omega) (by omega) (by omega) (by omega), h1 (78 + 3 * j + 1 + 1) (by omega) (by omega) (by omega) (by omega) (by omega), h2 100 (by omega) (by omega) j hq, h2 101 (by omega) (by omega) j hq, h2 102 (by omega) (by omega) j hq, h2 103 (by omega) (by omega) j hq]
    refine ⟨z1, z2, z3, fun z => ?_, z5⟩
    obtain ⟨y1, y2, y3⟩ := z4 z
    exact ⟨y1, y2, fun i hi => by rw [h3 _ (by omega)]; exact y3 i hi⟩
section Lay
variable {E : aE} {d h g : Nat} {σ : Nat → Nat → Int32} {A B : Tn} {im : Bool}
theorem c_shTakes (hH : isH h) (hG : isH g) (hgh : g ≠ h) : ∃ σ2, Rn E (d + 1) 24 0 [some (.ref h), some (.ref g)] [] (shp, σ) = some (none, (shp, σ2)) ∧ Fr [h, h + 1] σ σ2 ∧ (∀ i, i < 24 → σ2 (h + 1) i = σ (g + 1) i) ∧ σ2 h 2 = σ g 2 := by
  have hH2 : h = 70 ∨ h = 72 ∨ h = 74 ∨ h = 76 ∨ h = 79 ∨ h = 82 ∨ h = 85 ∨ h = 88 ∨ h = 91 := hH
  have hG2 : g = 70 ∨ g = 72 ∨ g = 74 ∨ g = 76 ∨ g = 79 ∨ g = 82 ∨ g = 85 ∨ g = 88 ∨ g = 91 := hG
  have P : ∀ (K : aSt → Option aRs), cpK (shp, σ) (g + 1) (nI 0) (h + 1) (nI 0) (nI 24) K = K (shp, sr σ (h + 1) (va_cpy (σ (g + 1)) (σ (h + 1)) 0 0 24)) := fun K => cpG (shH hG) (shH hH) (by omega) (by omega) (by omega) (by omega)
  have n1 : g ≠ h + 1 := by omega
  have r1 : sr σ (h + 1) (va_cpy (σ (g + 1)) (σ (h + 1)) 0 0 24) g = σ g := sr_ne n1
  have r2 : su (sr σ (h + 1) (va_cpy (σ (g + 1)) (σ (h + 1)) 0 0 24)) h 1 (σ g 1) g = σ g := by rw [su_row hgh, r1]
  simp (disch := omega) only [e24_0, e24_1, e24_4, e24_5, e24_6, e24_9, e24_10, e24_12, e24_15, e24_16, e24_17, e24_20, e24_23, e24_24, e24_25, e24_28, e24_31, ↓reduceIte, inb_n, ix_n, if_true, ne_eq, Nat.reduceEqDiff, not_false_eq_true, clK_s, tl_s, tl_n, clr_i, clr_n, clr_a, nI_add, gH_0 hH, gH_0 hG, gH_1 hG, gH_2 hG, pH_1 hH, pH_2 hH, P, r1, r2]
  refine ⟨_, rfl, ?_, ?_, ?_⟩
  · refine Fr.su (Fr.su (fun a ha => sr_ne (fun z => ha (by rw [z]; simp))) (by simp)) (by simp)
  · intro i hi
    rw [su_row (by omega), su_row (by omega), sr_eq, pk_cpy_in (by omega) (by omega)]
    congr 1
    omega
  · rw [su_rf, pk_us]
def goodB (A : Tn) (tv kv : Int32) : Bool := decide (tv = nI 0) || (decide (tv = nI 3) || ((decide (tv = nI 1) && hasB A kv) || (decide (tv = nI 2) && rg 0 3 kv)))
theorem k_lay_0 {xv tv kv : Int32} (hM : MR (σ 94) A) (h8 : tN A ≤ 8) : Rn E (d + 2) 200 0 [some (.ref 93), some (.int xv), some (.int tv), some (.int kv), none, none, none] [] (shp, σ) = Rn E (d + 2) 200 39 [some (.ref 93), some (.int xv), some (.int tv), some (.int kv), none, none, none] [.int (bI (goodB A tv kv))] (shp, σ) := by
  have z12 : ¬ nI 1 = nI 2 := by decide +kernel
  have z13 : ¬ nI 1 = nI 3 := by decide +kernel
  have z20 : ¬ nI 2 = nI 0 := by decide +kernel
  have z21 : ¬ nI 2 = nI 1 := by decide +kernel
  have z23 : ¬ nI 2 = nI 3 := by decide +kernel
  have z30 : ¬ nI 3 = nI 0 := by decide +kernel
  by_cases h0 : tv = nI 0
  · have hg : goodB A tv kv = true := by simp [goodB, h0]
    rw [hg]
    simp (disch := omega) only [e200_0, e200_1, e200_4, e200_5, e200_6, e200_9, e200_10, e200_11, e200_14, e200_15, e200_16, e200_19, e200_22, e200_23, e200_24, e200_27, e200_28, e200_31, e200_34, e200_35, e200_38, ↓reduceIte, gM_0, a_94, inb_n, ix_n, if_true, ne_eq, Nat.reduceEqDiff, not_false_eq_true, vM, clK_s, tl_s, tl_n, clr_i, clr_n, clr_a, nI_add, h0, bI_t]
  · by_cases h3 : tv = nI 3
    · have hg : goodB A tv kv = true := by simp [goodB, h3]
      rw [hg]
      simp (disch := omega) only [e200_0, e200_1, e200_4, e200_5, e200_6, e200_9, e200_10, e200_11, e200_14, e200_15, e200_16, e200_19, e200_22, e200_23, e200_24, e200_27, e200_28, e200_31, e200_34, e200_35, e200_38, ↓reduceIte, gM_0, a_94, inb_n, ix_n, if_true, ne_eq, Nat.reduceEqDiff, not_false_eq_true, vM, clK_s, tl_s, tl_n, clr_i, clr_n, clr_a, nI_add, h0, h3, z30, bI_t]
    · by_cases h1 : tv = nI 1
      · have hg : goodB A tv kv = hasB A kv := by simp [goodB, h1, z12, z13, n10]
        rw [hg]
        subst h1
        cases ho : hasB A kv <;> simp (disch := omega) only [e200_0, e200_1, e200_4, e200_5, e200_6, e200_9, e200_10, e200_11, e200_14, e200_15, e200_16, e200_19, e200_22, e200_23, e200_24, e200_27, e200_28, e200_31, e200_34, e200_35, e200_38, ↓reduceIte, gM_0, a_94, inb_n, ix_n, if_true, ne_eq, Nat.reduceEqDiff, not_false_eq_true, vM, clK_s, tl_s, tl_n, clr_i, clr_n, clr_a, nI_add, n10, z13, z12, k_isOne hM h8, ho, bI_0, Bool.true_eq_false, Bool.false_eq_true, not_true_eq_false, not_false_eq_true, if_false, reduceCtorEq, bI_t, bI_f]
      · by_cases h2 : tv = nI 2
        · have hg : goodB A tv kv = rg 0 3 kv := by simp [goodB, h2, z20, z21, z23]
          rw [hg]
          subst h2
          cases ho : rg 0 3 kv <;> simp (disch := omega) only [e200_0, e200_1, e200_4, e200_5, e200_6, e200_9, e200_10, e200_11, e200_14, e200_15, e200_16, e200_19, e200_22, e200_23, e200_24, e200_27, e200_28, e200_31, e200_34, e200_35, e200_38, ↓reduceIte, gM_0, a_94, inb_n, ix_n, if_true, ne_eq, Nat.reduceEqDiff, not_false_eq_true, vM, clK_s, tl_s, tl_n, clr_i, clr_n, clr_a, nI_add, z20, z23, z21, k_isSheet, ho, bI_0, Bool.true_eq_false, Bool.false_eq_true, not_true_eq_false, not_false_eq_true, if_false, reduceCtorEq, bI_t, bI_f, n10]
        · have hg : goodB A tv kv = false := by simp [goodB, h0, h1, h2, h3]
          rw [hg]
          simp (disch := omega) only [e200_0, e200_1, e200_4, e200_5, e200_6, e200_9, e200_10, e200_11, e200_14, e200_15, e200_16, e200_19, e200_22, e200_23, e200_24, e200_27, e200_28, e200_31, e200_34, e200_35, e200_38, ↓reduceIte, gM_0, a_94, inb_n, ix_n, if_true, ne_eq, Nat.reduceEqDiff, not_false_eq_true, vM, clK_s, tl_s, tl_n, clr_i, clr_n, clr_a, nI_add, h0, h1, h2, h3, bI_f]
theorem k_lay_l {zz kz : Nat} {v4 v5 : Option Value} {wv rv : Int32} (hz : zz < 5) (hk : kz < 4) : ∀ r iz (σ1 : Nat → Nat → Int32), iz + r = 24 → Fr [104] σ σ1 → (∀ i, i < iz → σ1 104 (24 * zz + i) = σ 99 (24 * kz + i)) → (∀ j, (j < 24 * zz ∨ 24 * zz + 24 ≤ j) → σ1 104 j = σ 104 j) →
    ∃ σ2, Rn E d 200 150 [some (.ref 93), some (.int (nI zz)), some (.int wv), some (.int (nI kz)), v4, some (.int rv), some (.int (nI iz))] [] (shp, σ1) = some (some (.int rv), (shp, σ2)) ∧ Fr [104] σ σ2 ∧ (∀ i, i < 24 → σ2 104 (24 * zz + i) = σ 99 (24 * kz + i)) ∧ (∀ j, (j < 24 * zz ∨ 24 * zz + 24 ≤ j) → σ2 104 j = σ 104 j) := by
  intro r
  induction r with
  | zero =>
    intro iz σ1 hi hf hc ho
    have h1 : 24 ≤ iz := by omega
    exact ⟨σ1, by rw [e200_150]; simp (disch := omega) only [e200_152, e200_154, e200_157, e200_158, e200_161, e200_163, e200_164, e200_165, e200_167, e200_168, e200_169, e200_172, e200_174, e200_175, e200_176, e200_178, e200_179, e200_180, e200_181, e200_184, e200_187, e200_189, ↓reduceIte, gM_0, a_94, inb_n, ix_n, if_true, ne_eq, Nat.reduceEqDiff, not_false_eq_true, vM, clK_s, tl_s, tl_n, clr_i, clr_n, clr_a, nI_add, nI_leI, h1], hf, fun i hj => hc i (by omega), ho⟩
  | succ r ih =>
    intro iz σ1 hi hf hc ho
    have h1 : ¬ 24 ≤ iz := by omega
    have e99 : σ1 99 = σ 99 := hf 99 (by decide)
    obtain ⟨σ2, g1, g2⟩ := ih (iz + 1) (su σ1 104 (24 * zz + iz) (σ 99 (24 * kz + iz))) (by omega) (hf.su (by decide)) (by
      intro i hj
      rw [su_rf]
      by_cases hq : i = iz
      · rw [hq, pk_us]
      · rw [pk_un (by omega)]; exact hc i (by omega)) (by
      intro j hj
      rw [su_rf, pk_un (by omega)]; exact ho j hj)
    refine ⟨σ2, ?_, g2⟩
    rw [← g1]
    conv => lhs; rw [e200_150]
    simp (disch := omega) only [e200_152, e200_154, e200_157, e200_158, e200_161, e200_163, e200_164, e200_165, e200_167, e200_168, e200_169, e200_172, e200_174, e200_175, e200_176, e200_178, e200_179, e200_180, e200_181, e200_184, ↓reduceIte, gM_0, a_94, inb_n, ix_n, if_true, ne_eq, Nat.reduceEqDiff, not_false_eq_true, vM, clK_s, tl_s, tl_n, clr_i, clr_n, clr_a, nI_add, nI_leI, h1, gM_11, gM_6, s_104, a_99, pk_mul, e99]
theorem op_lay {xv tv kv : Int32} (hI : INV σ A B im) : OK2 σ (Rn E (d + 50) 88 0 [some (.ref 0), some (.int xv), some (.int tv), some (.int kv), none, none] []) (Rn E (d + 50) 200 0 [some (.ref 93), some (.int xv), some (.int tv), some (.int kv), none, none, none] []) := by
  obtain ⟨⟨hC, hM, hW, hX, hc, hR⟩, _, hL⟩ := id hI
  have h8 := hW.1
  have hZ := hL.2.1
  have hS := hL.1
  have z12 : ¬ nI 1 = nI 2 := by decide +kernel
  have z13 : ¬ nI 1 = nI 3 := by decide +kernel
  have z20 : ¬ nI 2 = nI 0 := by decide +kernel
  have z21 : ¬ nI 2 = nI 1 := by decide +kernel
  have z23 : ¬ nI 2 = nI 3 := by decide +kernel
  have z30 : ¬ nI 3 = nI 0 := by decide +kernel
  have z31 : ¬ nI 3 = nI 1 := by decide +kernel
  have z32 : ¬ nI 3 = nI 2 := by decide +kernel
  have z01 : ¬ nI 0 = nI 1 := by decide +kernel
  have z02 : ¬ nI 0 = nI 2 := by decide +kernel
  have z03 : ¬ nI 0 = nI 3 := by decide +kernel
  cases hb : rg 0 4 xv with
  | false =>
    refine ok_read (vv := (-1000000001)) hI ?_ ?_
    · simp (disch := omega) only [e88_0, e88_1, e88_2, e88_3, e88_6, e88_9, e88_10, e88_11, e88_12, e88_15, e88_18, e88_20, e88_21, e88_22, e88_23, e88_26, e88_27, e88_30, e88_31, e88_34, e88_37, e88_38, e88_39, e88_42, e88_43, e88_44, e88_45, e88_48, e88_51, e88_53, e88_54, e88_55, e88_56, e88_59, e88_60, e88_63, e88_64, e88_65, e88_68, e88_69, e88_72, e88_74, e88_75, e88_76, e88_79, e88_80, e88_81, e88_83, e88_85, e88_88, e88_90, e88_92, e88_93, e88_96, e88_97, e88_98, e88_101, e88_103, e88_104, e88_107, e88_110, e88_111, e88_112, e88_115, e88_117, e88_118, e88_121, e88_124, e88_125, e88_126, e88_129, e88_132, e88_133, e88_134, e88_137, e88_139, e88_142, e88_143, e88_146, e88_147, e88_148, e88_151, e88_154, e88_155, e88_156, e88_159, e88_161, e88_162, e88_165, e88_167, ↓reduceIte, inb_n, ix_n, if_true, ne_eq, Nat.reduceEqDiff, not_false_eq_true, clK_s, tl_s, tl_n, clr_i, clr_n, clr_a, nI_add, c_isWithin, tI_0, tI_1, tI_2, tI_3, tI_4, tI_5, tI_6, tI_7, tI_8, tI_19, tI_20, tI_23, tI_24, tI_29, tI_30, tI_48, tI_50, tI_57, tI_60, tI_97, tI_100, tI_122, tI_200, tI_99999, tI_m1, tI_m99999, hb, bI_0, Bool.true_eq_false, Bool.false_eq_true, not_true_eq_false, not_false_eq_true, if_false, reduceCtorEq]
    · rw [k_lay_0 (d := d + 48) hM h8]
      simp (disch := omega) only [e200_39, e200_41, e200_42, e200_45, e200_48, e200_50, e200_53, e200_55, ↓reduceIte, gM_0, a_94, inb_n, ix_n, if_true, ne_eq, Nat.reduceEqDiff, not_false_eq_true, vM, clK_s, tl_s, tl_n, clr_i, clr_n, clr_a, nI_add, k_isSlot, hb, bI_0, Bool.true_eq_false, Bool.false_eq_true, not_true_eq_false, not_false_eq_true, if_false, reduceCtorEq]
  | true =>
  cases hb2 : rg 0 3 tv with
  | false =>
    have hno := rg_no hb2
    have n0 : ¬ tv = nI 0 := fun z => by rw [z, nI_toInt (by omega)] at hno; omega
    have n1 : ¬ tv = nI 1 := fun z => by rw [z, nI_toInt (by omega)] at hno; omega
    have n2 : ¬ tv = nI 2 := fun z => by rw [z, nI_toInt (by omega)] at hno; omega
    have n3 : ¬ tv = nI 3 := fun z => by rw [z, nI_toInt (by omega)] at hno; omega
    have hg : goodB A tv kv = false := by simp [goodB, n0, n1, n2, n3]
    refine ok_read (vv := (-1000000001)) hI ?_ ?_
    · simp (disch := omega) only [e88_0, e88_1, e88_2, e88_3, e88_6, e88_9, e88_10, e88_11, e88_12, e88_15, e88_18, e88_20, e88_21, e88_22, e88_23, e88_26, e88_27, e88_30, e88_31, e88_34, e88_37, e88_38, e88_39, e88_42, e88_43, e88_44, e88_45, e88_48, e88_51, e88_53, e88_54, e88_55, e88_56, e88_59, e88_60, e88_63, e88_64, e88_65, e88_68, e88_69, e88_72, e88_74, e88_75, e88_76, e88_79, e88_80, e88_81, e88_83, e88_85, e88_88, e88_90, e88_92, e88_93, e88_96, e88_97, e88_98, e88_101, e88_103, e88_104, e88_107, e88_110, e88_111, e88_112, e88_115, e88_117, e88_118, e88_121, e88_124, e88_125, e88_126, e88_129, e88_132, e88_133, e88_134, e88_137, e88_139, e88_142, e88_143, e88_146, e88_147, e88_148, e88_151, e88_154, e88_155, e88_156, e88_159, e88_161, e88_162, e88_165, e88_167, ↓reduceIte, inb_n, ix_n, if_true, ne_eq, Nat.reduceEqDiff, not_false_eq_true, clK_s, tl_s, tl_n, clr_i, clr_n, clr_a, nI_add, c_isWithin, tI_0, tI_1, tI_2, tI_3, tI_4, tI_5, tI_6, tI_7, tI_8, tI_19, tI_20, tI_23, tI_24, tI_29, tI_30, tI_48, tI_50, tI_57, tI_60, tI_97, tI_100, tI_122, tI_200, tI_99999, tI_m1, tI_m99999, hb, hb2, bI_0, Bool.true_eq_false, Bool.false_eq_true, not_true_eq_false, not_false_eq_true, if_false, reduceCtorEq]
    · rw [k_lay_0 (d := d + 48) hM h8]
      simp (disch := omega) only [e200_39, e200_41, e200_42, e200_45, e200_48, e200_50, e200_53, e200_55, ↓reduceIte, gM_0, a_94, inb_n, ix_n, if_true, ne_eq, Nat.reduceEqDiff, not_false_eq_true, vM, clK_s, tl_s, tl_n, clr_i, clr_n, clr_a, nI_add, k_isSlot, hb, hg, bI_0, Bool.true_eq_false, Bool.false_eq_true, not_true_eq_false, not_false_eq_true, if_false, reduceCtorEq]
  | true =>
    obtain ⟨zz, hz, rfl⟩ := rg_e (n := 4) rfl hb
    obtain ⟨wz, hw, rfl⟩ := rg_e (n := 3) rfl hb2
    have hz : zz < 5 := by omega
    obtain ⟨y1, ⟨n, hn, y2⟩, _⟩ := hZ zz hz
    have c1 : σ (78 + 3 * zz) 1 = nI n := by rw [y1, y2]
    match wz, hw with
    | 0, _ =>
      have hg : goodB A (nI 0) kv = true := by simp [goodB]
      have e1 : su σ (78 + 3 * zz) 1 (nI 0) 100 zz = nI n := by rw [su_row (by omega), y2]
      refine ⟨nI n, su σ (78 + 3 * zz) 1 (nI 0), su (su (su (su σ (78 + 3 * zz) 1 (nI 0)) 100 zz (nI 0)) 101 zz kv) 102 zz (nI 0), A, B, im, ?_, ?_, hI.z (fun a h1 h2 => by rw [su_row (by omega), su_row (by omega), su_row (by omega), su_row (by omega)]) (RLz_at hZ hz (fun a h1 h2 h3 _ _ => by rw [su_row (by omega), su_row (by omega), su_row (by omega), su_row (by omega)]) (fun a h1 h2 j hj => by simp only [su_at]; rw [if_neg (fun z => hj z.2), if_neg (fun z => hj z.2), if_neg (fun z => hj z.2), if_neg (by omega)]) (fun j _ => by rw [su_row (by omega), su_row (by omega), su_row (by omega), su_row (by omega)]) ?_)⟩
      · simp (disch := omega) only [e88_0, e88_1, e88_2, e88_3, e88_6, e88_9, e88_10, e88_11, e88_12, e88_15, e88_18, e88_20, e88_21, e88_22, e88_23, e88_26, e88_27, e88_30, e88_31, e88_34, e88_37, e88_38, e88_39, e88_42, e88_43, e88_44, e88_45, e88_48, e88_51, e88_53, e88_54, e88_55, e88_56, e88_59, e88_60, e88_63, e88_64, e88_65, e88_68, e88_69, e88_72, e88_74, e88_75, e88_76, e88_79, e88_80, e88_81, e88_83, e88_85, e88_88, e88_90, e88_92, e88_93, e88_96, e88_97, e88_98, e88_101, e88_103, e88_104, e88_107, e88_110, e88_111, e88_112, e88_115, e88_117, e88_118, e88_121, e88_124, e88_125, e88_126, e88_129, e88_132, e88_133, e88_134, e88_137, e88_139, e88_142, e88_143, e88_146, e88_147, e88_148, e88_151, e88_154, e88_155, e88_156, e88_159, e88_161, e88_162, e88_165, e88_167, ↓reduceIte, inb_n, ix_n, if_true, ne_eq, Nat.reduceEqDiff, not_false_eq_true, clK_s, tl_s, tl_n, clr_i, clr_n, clr_a, nI_add, c_isWithin, tI_0, tI_1, tI_2, tI_3, tI_4, tI_5, tI_6, tI_7, tI_8, tI_19, tI_20, tI_23, tI_24, tI_29, tI_30, tI_48, tI_50, tI_57, tI_60, tI_97, tI_100, tI_122, tI_200, tI_99999, tI_m1, tI_m99999, hb, hb2, bI_0, Bool.true_eq_false, Bool.false_eq_true, not_true_eq_false, not_false_eq_true, if_false, reduceCtorEq, z01, z02, z03, gX_6, q_67, gZ_1 (isZ_n hz), pZ_1 (isZ_n hz), c1]
      · have hM1 : MR (su σ (78 + 3 * zz) 1 (nI 0) 94) A := by rw [su_row (by omega)]; exact hM
        rw [k_lay_0 (d := d + 48) hM1 h8]
        simp (disch := omega) only [e200_39, e200_41, e200_42, e200_45, e200_48, e200_50, e200_53, e200_55, e200_56, e200_57, e200_58, e200_61, e200_62, e200_65, e200_66, e200_67, e200_70, e200_73, e200_74, e200_75, e200_78, e200_79, e200_80, e200_82, e200_83, e200_86, e200_87, e200_88, e200_89, e200_90, e200_93, e200_94, e200_95, e200_96, e200_99, e200_100, e200_101, e200_102, e200_105, e200_108, e200_109, e200_110, e200_111, e200_114, e200_115, e200_116, e200_117, e200_120, e200_121, e200_122, e200_125, e200_128, e200_129, e200_130, e200_131, e200_132, e200_135, e200_136, e200_139, e200_140, e200_141, e200_144, e200_145, e200_146, e200_187, e200_189, ↓reduceIte, gM_0, a_94, inb_n, ix_n, if_true, ne_eq, Nat.reduceEqDiff, not_false_eq_true, vM, clK_s, tl_s, tl_n, clr_i, clr_n, clr_a, nI_add, k_isSlot, hb, hg, bI_0, Bool.true_eq_false, Bool.false_eq_true, not_true_eq_false, not_false_eq_true, if_false, reduceCtorEq, z01, z02, gM_7, gM_8, gM_9, a_100, s_100, s_101, s_102, e1]
      · have r100 : su (su (su (su σ (78 + 3 * zz) 1 (nI 0)) 100 zz (nI 0)) 101 zz kv) 102 zz (nI 0) 100 zz = nI 0 := by rw [su_row (by decide), su_row (by decide), su_rf, pk_us]
        unfold zCl
        rw [r100]
        refine ⟨?_, ⟨0, by omega, rfl⟩, fun z => absurd z z01, fun z => absurd z z02, fun z => absurd z z03⟩
        rw [su_row (by omega), su_row (by omega), su_row (by omega), su_rf, pk_us]
    | 3, _ =>
      have hg : goodB A (nI 3) kv = true := by simp [goodB]
      have e1 : su (su σ (78 + 3 * zz) 1 (nI 3)) (78 + 3 * zz) 4 kv 100 zz = nI n := by rw [su_row (by omega), su_row (by omega), y2]
      refine ⟨nI n, su (su σ (78 + 3 * zz) 1 (nI 3)) (78 + 3 * zz) 4 kv, su (su (su (su (su σ (78 + 3 * zz) 1 (nI 3)) (78 + 3 * zz) 4 kv) 100 zz (nI 3)) 101 zz kv) 102 zz (nI 0), A, B, im, ?_, ?_, hI.z (fun a h1 h2 => by rw [su_row (by omega), su_row (by omega), su_row (by omega), su_row (by omega), su_row (by omega)]) (RLz_at hZ hz (fun a h1 h2 h3 _ _ => by rw [su_row (by omega), su_row (by omega), su_row (by omega), su_row (by omega), su_row (by omega)]) (fun a h1 h2 j hj => by simp only [su_at]; rw [if_neg (fun z => hj z.2), if_neg (fun z => hj z.2), if_neg (fun z => hj z.2), if_neg (by omega), if_neg (by omega)]) (fun j _ => by rw [su_row (by omega), su_row (by omega), su_row (by omega), su_row (by omega), su_row (by omega)]) ?_)⟩
      · simp (disch := omega) only [e88_0, e88_1, e88_2, e88_3, e88_6, e88_9, e88_10, e88_11, e88_12, e88_15, e88_18, e88_20, e88_21, e88_22, e88_23, e88_26, e88_27, e88_30, e88_31, e88_34, e88_37, e88_38, e88_39, e88_42, e88_43, e88_44, e88_45, e88_48, e88_51, e88_53, e88_54, e88_55, e88_56, e88_59, e88_60, e88_63, e88_64, e88_65, e88_68, e88_69, e88_72, e88_74, e88_75, e88_76, e88_79, e88_80, e88_81, e88_83, e88_85, e88_88, e88_90, e88_92, e88_93, e88_96, e88_97, e88_98, e88_101, e88_103, e88_104, e88_107, e88_110, e88_111, e88_112, e88_115, e88_117, e88_118, e88_121, e88_124, e88_125, e88_126, e88_129, e88_132, e88_133, e88_134, e88_137, e88_139, e88_142, e88_143, e88_146, e88_147, e88_148, e88_151, e88_154, e88_155, e88_156, e88_159, e88_161, e88_162, e88_165, e88_167, ↓reduceIte, inb_n, ix_n, if_true, ne_eq, Nat.reduceEqDiff, not_false_eq_true, clK_s, tl_s, tl_n, clr_i, clr_n, clr_a, nI_add, c_isWithin, tI_0, tI_1, tI_2, tI_3, tI_4, tI_5, tI_6, tI_7, tI_8, tI_19, tI_20, tI_23, tI_24, tI_29, tI_30, tI_48, tI_50, tI_57, tI_60, tI_97, tI_100, tI_122, tI_200, tI_99999, tI_m1, tI_m99999, hb, hb2, bI_0, Bool.true_eq_false, Bool.false_eq_true, not_true_eq_false, not_false_eq_true, if_false, reduceCtorEq, z31, z32, gX_6, q_67, gZ_1 (isZ_n hz), pZ_1 (isZ_n hz), pZ_4 (isZ_n hz), c1]
      · have hM1 : MR (su (su σ (78 + 3 * zz) 1 (nI 3)) (78 + 3 * zz) 4 kv 94) A := by rw [su_row (by omega), su_row (by omega)]; exact hM
        rw [k_lay_0 (d := d + 48) hM1 h8]
        simp (disch := omega) only [e200_39, e200_41, e200_42, e200_45, e200_48, e200_50, e200_53, e200_55, e200_56, e200_57, e200_58, e200_61, e200_62, e200_65, e200_66, e200_67, e200_70, e200_73, e200_74, e200_75, e200_78, e200_79, e200_80, e200_82, e200_83, e200_86, e200_87, e200_88, e200_89, e200_90, e200_93, e200_94, e200_95, e200_96, e200_99, e200_100, e200_101, e200_102, e200_105, e200_108, e200_109, e200_110, e200_111, e200_114, e200_115, e200_116, e200_117, e200_120, e200_121, e200_122, e200_125, e200_128, e200_129, e200_130, e200_131, e200_132, e200_135, e200_136, e200_139, e200_140, e200_141, e200_144, e200_145, e200_146, e200_187, e200_189, ↓reduceIte, gM_0, a_94, inb_n, ix_n, if_true, ne_eq, Nat.reduceEqDiff, not_false_eq_true, vM, clK_s, tl_s, tl_n, clr_i, clr_n, clr_a, nI_add, k_isSlot, hb, hg, bI_0, Bool.true_eq_false, Bool.false_eq_true, not_true_eq_false, not_false_eq_true, if_false, reduceCtorEq, z31, z32, gM_7, gM_8, gM_9, a_100, s_100, s_101, s_102, e1]
      · have r100 : su (su (su (su (su σ (78 + 3 * zz) 1 (nI 3)) (78 + 3 * zz) 4 kv) 100 zz (nI 3)) 101 zz kv) 102 zz (nI 0) 100 zz = nI 3 := by rw [su_row (by decide), su_row (by decide), su_rf, pk_us]
        have r101 : su (su (su (su (su σ (78 + 3 * zz) 1 (nI 3)) (78 + 3 * zz) 4 kv) 100 zz (nI 3)) 101 zz kv) 102 zz (nI 0) 101 zz = kv := by rw [su_row (by decide), su_rf, pk_us]
        unfold zCl
        rw [r100, r101]
        refine ⟨?_, ⟨3, by omega, rfl⟩, fun z => absurd z z31, fun z => absurd z z32, fun _ => ?_⟩
        · rw [su_row (by omega), su_row (by omega), su_row (by omega), su_rf, pk_un (by omega), su_rf, pk_us]
        · rw [su_row (by omega), su_row (by omega), su_row (by omega), su_rf, pk_us]
    | 1, _ =>
      cases ho : hasB A kv with
      | false =>
        have hg : goodB A (nI 1) kv = false := by simp [goodB, ho, z12, z13, n10]
        refine ok_read (vv := (-1000000001)) hI ?_ ?_
        · simp (disch := omega) only [e88_0, e88_1, e88_2, e88_3, e88_6, e88_9, e88_10, e88_11, e88_12, e88_15, e88_18, e88_20, e88_21, e88_22, e88_23, e88_26, e88_27, e88_30, e88_31, e88_34, e88_37, e88_38, e88_39, e88_42, e88_43, e88_44, e88_45, e88_48, e88_51, e88_53, e88_54, e88_55, e88_56, e88_59, e88_60, e88_63, e88_64, e88_65, e88_68, e88_69, e88_72, e88_74, e88_75, e88_76, e88_79, e88_80, e88_81, e88_83, e88_85, e88_88, e88_90, e88_92, e88_93, e88_96, e88_97, e88_98, e88_101, e88_103, e88_104, e88_107, e88_110, e88_111, e88_112, e88_115, e88_117, e88_118, e88_121, e88_124, e88_125, e88_126, e88_129, e88_132, e88_133, e88_134, e88_137, e88_139, e88_142, e88_143, e88_146, e88_147, e88_148, e88_151, e88_154, e88_155, e88_156, e88_159, e88_161, e88_162, e88_165, e88_167, ↓reduceIte, inb_n, ix_n, if_true, ne_eq, Nat.reduceEqDiff, not_false_eq_true, clK_s, tl_s, tl_n, clr_i, clr_n, clr_a, nI_add, c_isWithin, tI_0, tI_1, tI_2, tI_3, tI_4, tI_5, tI_6, tI_7, tI_8, tI_19, tI_20, tI_23, tI_24, tI_29, tI_30, tI_48, tI_50, tI_57, tI_60, tI_97, tI_100, tI_122, tI_200, tI_99999, tI_m1, tI_m99999, hb, hb2, bI_0, Bool.true_eq_false, Bool.false_eq_true, not_true_eq_false, not_false_eq_true, if_false, reduceCtorEq, gX_2, gT_0 t36, gT_1 t36, gT_2 t36, gT_3 t36, gT_4 t36, gT_5 t36, gT_6 t36, gT_7 t36, gT_8 t36, gT_9 t36, gT_10 t36, gT_11 t36, gT_12 t36, gT_13 t36, gT_14 t36, gT_15 t36, gT_16 t36, gT_17 t36, pT_10 t36, pT_11 t36, pT_12 t36, pT_13 t36, pT_14 t36, pT_15 t36, pT_16 t36, pT_17 t36, aT_1 t36, aT_2 t36, aT_3 t36, aT_4 t36, aT_5 t36, aT_6 t36, aT_7 t36, aT_8 t36, aT_9 t36, sT_1 t36, sT_2 t36, sT_3 t36, sT_4 t36, sT_5 t36, sT_6 t36, sT_7 t36, sT_8 t36, sT_9 t36, vT t36, c_has t36 hC h8, ho]
        · rw [k_lay_0 (d := d + 48) hM h8]
          simp (disch := omega) only [e200_39, e200_41, e200_42, e200_45, e200_48, e200_50, e200_53, e200_55, ↓reduceIte, gM_0, a_94, inb_n, ix_n, if_true, ne_eq, Nat.reduceEqDiff, not_false_eq_true, vM, clK_s, tl_s, tl_n, clr_i, clr_n, clr_a, nI_add, k_isSlot, hb, hg, bI_0, Bool.true_eq_false, Bool.false_eq_true, not_true_eq_false, not_false_eq_true, if_false, reduceCtorEq]
      | true =>
        obtain ⟨kz, hk, rfl⟩ := hasB_ex ho
        obtain ⟨cz, hc6, ec⟩ := (hW.2.1 kz hk).2.1
        have hg : goodB A (nI 1) (nI kz) = true := by simp [goodB, ho]
        have p0 : su σ (78 + 3 * zz) 1 (nI 1) (36 + 1) kz = nI cz := by rw [su_row (by omega), hC.k0 hk, ec]
        have p2 : su (su σ (78 + 3 * zz) 1 (nI 1)) (78 + 3 * zz) 2 (nI cz) (36 + 3) kz = tF A kz 2 := by rw [su_row (by omega), su_row (by omega)]; exact hC.k2 hk
        have e94 : su (su (su σ (78 + 3 * zz) 1 (nI 1)) (78 + 3 * zz) 2 (nI cz)) (78 + 3 * zz) 3 (tF A kz 2) 94 = σ 94 := by rw [su_row (by omega), su_row (by omega), su_row (by omega)]
        have e1 : su (su (su σ (78 + 3 * zz) 1 (nI 1)) (78 + 3 * zz) 2 (nI cz)) (78 + 3 * zz) 3 (tF A kz 2) 100 zz = nI n := by rw [su_row (by omega), su_row (by omega), su_row (by omega), y2]
        have hM1 : MR (su (su (su σ (78 + 3 * zz) 1 (nI 1)) (78 + 3 * zz) 2 (nI cz)) (78 + 3 * zz) 3 (tF A kz 2) 94) A := by rw [e94]; exact hM
        have hM2 : MR (su (su (su (su σ (78 + 3 * zz) 1 (nI 1)) (78 + 3 * zz) 2 (nI cz)) (78 + 3 * zz) 3 (tF A kz 2)) 100 zz (nI 1) 94) A := by rw [su_row (by decide)]; exact hM1
        have f0 : su (su (su (su σ (78 + 3 * zz) 1 (nI 1)) (78 + 3 * zz) 2 (nI cz)) (78 + 3 * zz) 3 (tF A kz 2)) 100 zz (nI 1) 94 (10 + 5 * kz + 0) = nI cz := by rw [hM2.2.1 kz hk 0 (by omega), ec]
        have hM3 : MR (su (su (su (su (su σ (78 + 3 * zz) 1 (nI 1)) (78 + 3 * zz) 2 (nI cz)) (78 + 3 * zz) 3 (tF A kz 2)) 100 zz (nI 1)) 101 zz (nI cz) 94) A := by rw [su_row (by decide)]; exact hM2
        refine ⟨nI n, su (su (su σ (78 + 3 * zz) 1 (nI 1)) (78 + 3 * zz) 2 (nI cz)) (78 + 3 * zz) 3 (tF A kz 2), su (su (su (su (su (su σ (78 + 3 * zz) 1 (nI 1)) (78 + 3 * zz) 2 (nI cz)) (78 + 3 * zz) 3 (tF A kz 2)) 100 zz (nI 1)) 101 zz (nI cz)) 102 zz (woK (tF A kz 0) (tF A kz 2)), A, B, im, ?_, ?_, hI.z (fun a h1 h2 => by rw [su_row (by omega), su_row (by omega), su_row (by omega), su_row (by omega), su_row (by omega), su_row (by omega)]) (RLz_at hZ hz (fun a h1 h2 h3 _ _ => by rw [su_row (by omega), su_row (by omega), su_row (by omega), su_row (by omega), su_row (by omega), su_row (by omega)]) (fun a h1 h2 j hj => by simp only [su_at]; rw [if_neg (fun z => hj z.2), if_neg (fun z => hj z.2), if_neg (fun z => hj z.2), if_neg (by omega), if_neg (by omega), if_neg (by omega)]) (fun j _ => by rw [su_row (by omega), su_row (by omega), su_row (by omega), su_row (by omega), su_row (by omega), su_row (by omega)]) ?_)⟩
        · simp (disch := omega) only [e88_0, e88_1, e88_2, e88_3, e88_6, e88_9, e88_10, e88_11, e88_12, e88_15, e88_18, e88_20, e88_21, e88_22, e88_23, e88_26, e88_27, e88_30, e88_31, e88_34, e88_37, e88_38, e88_39, e88_42, e88_43, e88_44, e88_45, e88_48, e88_51, e88_53, e88_54, e88_55, e88_56, e88_59, e88_60, e88_63, e88_64, e88_65, e88_68, e88_69, e88_72, e88_74, e88_75, e88_76, e88_79, e88_80, e88_81, e88_83, e88_85, e88_88, e88_90, e88_92, e88_93, e88_96, e88_97, e88_98, e88_101, e88_103, e88_104, e88_107, e88_110, e88_111, e88_112, e88_115, e88_117, e88_118, e88_121, e88_124, e88_125, e88_126, e88_129, e88_132, e88_133, e88_134, e88_137, e88_139, e88_142, e88_143, e88_146, e88_147, e88_148, e88_151, e88_154, e88_155, e88_156, e88_159, e88_161, e88_162, e88_165, e88_167, ↓reduceIte, inb_n, ix_n, if_true, ne_eq, Nat.reduceEqDiff, not_false_eq_true, clK_s, tl_s, tl_n, clr_i, clr_n, clr_a, nI_add, c_isWithin, tI_0, tI_1, tI_2, tI_3, tI_4, tI_5, tI_6, tI_7, tI_8, tI_19, tI_20, tI_23, tI_24, tI_29, tI_30, tI_48, tI_50, tI_57, tI_60, tI_97, tI_100, tI_122, tI_200, tI_99999, tI_m1, tI_m99999, hb, hb2, bI_0, Bool.true_eq_false, Bool.false_eq_true, not_true_eq_false, not_false_eq_true, if_false, reduceCtorEq, z12, gX_2, gX_6, q_67, gT_0 t36, gT_1 t36, gT_2 t36, gT_3 t36, gT_4 t36, gT_5 t36, gT_6 t36, gT_7 t36, gT_8 t36, gT_9 t36, gT_10 t36, gT_11 t36, gT_12 t36, gT_13 t36, gT_14 t36, gT_15 t36, gT_16 t36, gT_17 t36, pT_10 t36, pT_11 t36, pT_12 t36, pT_13 t36, pT_14 t36, pT_15 t36, pT_16 t36, pT_17 t36, aT_1 t36, aT_2 t36, aT_3 t36, aT_4 t36, aT_5 t36, aT_6 t36, aT_7 t36, aT_8 t36, aT_9 t36, sT_1 t36, sT_2 t36, sT_3 t36, sT_4 t36, sT_5 t36, sT_6 t36, sT_7 t36, sT_8 t36, sT_9 t36, vT t36, c_has t36 hC h8, ho, gZ_1 (isZ_n hz), pZ_1 (isZ_n hz), pZ_2 (isZ_n hz), pZ_3 (isZ_n hz), c1, p0, p2]
        · rw [k_lay_0 (d := d + 48) hM1 h8]
          simp (disch := omega) only [e200_39, e200_41, e200_42, e200_45, e200_48, e200_50, e200_53, e200_55, e200_56, e200_57, e200_58, e200_61, e200_62, e200_65, e200_66, e200_67, e200_70, e200_73, e200_74, e200_75, e200_78, e200_79, e200_80, e200_82, e200_83, e200_86, e200_87, e200_88, e200_89, e200_90, e200_93, e200_94, e200_95, e200_96, e200_99, e200_100, e200_101, e200_102, e200_105, e200_108, e200_109, e200_110, e200_111, e200_114, e200_115, e200_116, e200_117, e200_120, e200_121, e200_122, e200_125, e200_128, e200_129, e200_130, e200_131, e200_132, e200_135, e200_136, e200_139, e200_140, e200_141, e200_144, e200_145, e200_146, e200_187, e200_189, ↓reduceIte, gM_0, a_94, inb_n, ix_n, if_true, ne_eq, Nat.reduceEqDiff, not_false_eq_true, vM, clK_s, tl_s, tl_n, clr_i, clr_n, clr_a, nI_add, k_isSlot, hb, hg, bI_0, Bool.true_eq_false, Bool.false_eq_true, not_true_eq_false, not_false_eq_true, if_false, reduceCtorEq, z12, gM_7, gM_8, gM_9, a_100, s_100, s_101, s_102, e1, k_of, f0, k_worth hM3 hW hk]
        · unfold zCl
          have r100 : su (su (su (su (su (su σ (78 + 3 * zz) 1 (nI 1)) (78 + 3 * zz) 2 (nI cz)) (78 + 3 * zz) 3 (tF A kz 2)) 100 zz (nI 1)) 101 zz (nI cz)) 102 zz (woK (tF A kz 0) (tF A kz 2)) 100 zz = nI 1 := by rw [su_row (by decide), su_row (by decide), su_rf, pk_us]
          have r101 : su (su (su (su (su (su σ (78 + 3 * zz) 1 (nI 1)) (78 + 3 * zz) 2 (nI cz)) (78 + 3 * zz) 3 (tF A kz 2)) 100 zz (nI 1)) 101 zz (nI cz)) 102 zz (woK (tF A kz 0) (tF A kz 2)) 101 zz = nI cz := by rw [su_row (by decide), su_rf, pk_us]
          rw [r100, r101]
          refine ⟨?_, ⟨1, by omega, rfl⟩, fun _ => ⟨⟨cz, hc6, rfl⟩, ?_, ?_⟩, fun z => absurd z z12, fun z => absurd z z13⟩
          · rw [su_row (by omega), su_row (by omega), su_row (by omega), su_rf, pk_un (by omega), su_rf, pk_un (by omega), su_rf, pk_us]
          · rw [su_row (by omega), su_row (by omega), su_row (by omega), su_rf, pk_un (by omega), su_rf, pk_us]
          · rw [su_rf, pk_us, su_row (by omega), su_row (by omega), su_row (by omega), su_rf, pk_us, ec]
    | 2, _ =>
      cases ho : rg 0 3 kv with
      | false =>
        have hg : goodB A (nI 2) kv = false := by simp [goodB, ho, z20, z21, z23]
        refine ok_read (vv := (-1000000001)) hI ?_ ?_
        · simp (disch := omega) only [e88_0, e88_1, e88_2, e88_3, e88_6, e88_9, e88_10, e88_11, e88_12, e88_15, e88_18, e88_20, e88_21, e88_22, e88_23, e88_26, e88_27, e88_30, e88_31, e88_34, e88_37, e88_38, e88_39, e88_42, e88_43, e88_44, e88_45, e88_48, e88_51, e88_53, e88_54, e88_55, e88_56, e88_59, e88_60, e88_63, e88_64, e88_65, e88_68, e88_69, e88_72, e88_74, e88_75, e88_76, e88_79, e88_80, e88_81, e88_83, e88_85, e88_88, e88_90, e88_92, e88_93, e88_96, e88_97, e88_98, e88_101, e88_103, e88_104, e88_107, e88_110, e88_111, e88_112, e88_115, e88_117, e88_118, e88_121, e88_124, e88_125, e88_126, e88_129, e88_132, e88_133, e88_134, e88_137, e88_139, e88_142, e88_143, e88_146, e88_147, e88_148, e88_151, e88_154, e88_155, e88_156, e88_159, e88_161, e88_162, e88_165, e88_167, ↓reduceIte, inb_n, ix_n, if_true, ne_eq, Nat.reduceEqDiff, not_false_eq_true, clK_s, tl_s, tl_n, clr_i, clr_n, clr_a, nI_add, c_isWithin, tI_0, tI_1, tI_2, tI_3, tI_4, tI_5, tI_6, tI_7, tI_8, tI_19, tI_20, tI_23, tI_24, tI_29, tI_30, tI_48, tI_50, tI_57, tI_60, tI_97, tI_100, tI_122, tI_200, tI_99999, tI_m1, tI_m99999, hb, hb2, bI_0, Bool.true_eq_false, Bool.false_eq_true, not_true_eq_false, not_false_eq_true, if_false, reduceCtorEq, z21, ho]
        · rw [k_lay_0 (d := d + 48) hM h8]
          simp (disch := omega) only [e200_39, e200_41, e200_42, e200_45, e200_48, e200_50, e200_53, e200_55, ↓reduceIte, gM_0, a_94, inb_n, ix_n, if_true, ne_eq, Nat.reduceEqDiff, not_false_eq_true, vM, clK_s, tl_s, tl_n, clr_i, clr_n, clr_a, nI_add, k_isSlot, hb, hg, bI_0, Bool.true_eq_false, Bool.false_eq_true, not_true_eq_false, not_false_eq_true, if_false, reduceCtorEq]
      | true =>
        have hg : goodB A (nI 2) kv = true := by simp [goodB, ho]
        obtain ⟨kz, hk, rfl⟩ := rg_e (n := 3) rfl ho
        have hk : kz < 4 := by omega
        obtain ⟨s1, s2, s3, ⟨m, hm4, s4⟩, s5⟩ := hS kz hk
        obtain ⟨sn1, sn2⟩ := sort_neg s3
        by_cases hm : σ 97 kz = (-1)
        · have g2 : ¬ nI 0 ≤ σ 97 kz := fun z => sn2.mp z hm
          refine ok_read (vv := (-1000000011)) hI ?_ ?_
          · simp (disch := omega) only [e88_0, e88_1, e88_2, e88_3, e88_6, e88_9, e88_10, e88_11, e88_12, e88_15, e88_18, e88_20, e88_21, e88_22, e88_23, e88_26, e88_27, e88_30, e88_31, e88_34, e88_37, e88_38, e88_39, e88_42, e88_43, e88_44, e88_45, e88_48, e88_51, e88_53, e88_54, e88_55, e88_56, e88_59, e88_60, e88_63, e88_64, e88_65, e88_68, e88_69, e88_72, e88_74, e88_75, e88_76, e88_79, e88_80, e88_81, e88_83, e88_85, e88_88, e88_90, e88_92, e88_93, e88_96, e88_97, e88_98, e88_101, e88_103, e88_104, e88_107, e88_110, e88_111, e88_112, e88_115, e88_117, e88_118, e88_121, e88_124, e88_125, e88_126, e88_129, e88_132, e88_133, e88_134, e88_137, e88_139, e88_142, e88_143, e88_146, e88_147, e88_148, e88_151, e88_154, e88_155, e88_156, e88_159, e88_161, e88_162, e88_165, e88_167, ↓reduceIte, inb_n, ix_n, if_true, ne_eq, Nat.reduceEqDiff, not_false_eq_true, clK_s, tl_s, tl_n, clr_i, clr_n, clr_a, nI_add, c_isWithin, tI_0, tI_1, tI_2, tI_3, tI_4, tI_5, tI_6, tI_7, tI_8, tI_19, tI_20, tI_23, tI_24, tI_29, tI_30, tI_48, tI_50, tI_57, tI_60, tI_97, tI_100, tI_122, tI_200, tI_99999, tI_m1, tI_m99999, hb, hb2, bI_0, Bool.true_eq_false, Bool.false_eq_true, not_true_eq_false, not_false_eq_true, if_false, reduceCtorEq, z21, ho, gX_5, q_66, gH_1 (isH_n hk), s1, hm]
          · rw [k_lay_0 (d := d + 48) hM h8]
            simp (disch := omega) only [e200_39, e200_41, e200_42, e200_45, e200_48, e200_50, e200_53, e200_55, e200_56, e200_57, e200_58, e200_61, e200_62, e200_65, e200_66, e200_67, e200_70, e200_73, ↓reduceIte, gM_0, a_94, inb_n, ix_n, if_true, ne_eq, Nat.reduceEqDiff, not_false_eq_true, vM, clK_s, tl_s, tl_n, clr_i, clr_n, clr_a, nI_add, k_isSlot, hb, hg, bI_0, Bool.true_eq_false, Bool.false_eq_true, not_true_eq_false, not_false_eq_true, if_false, reduceCtorEq, gM_4, a_97, g2]
        · have g2 : nI 0 ≤ σ 97 kz := sn2.mpr hm
          obtain ⟨σ1, a1, a2, a3, a4⟩ := c_shTakes (E := E) (d := d + 48) (σ := su σ (78 + 3 * zz) 1 (nI 2)) (h := 78 + 3 * zz + 1) (g := 70 + 2 * kz) (isHz_n hz) (isH_n hk) (by omega)
          have hr1 : ∀ a, a ≠ 78 + 3 * zz → a ≠ 78 + 3 * zz + 1 → a ≠ 78 + 3 * zz + 1 + 1 → σ1 a = σ a := by
            intro a h1 h2 h3
            rw [a2 a (by simp; exact ⟨h2, h3⟩), su_row h1]
          have t1 : σ1 (78 + 3 * zz) 1 = nI 2 := by rw [a2 _ (by simp; omega), su_rf, pk_us]
          have e97 := hr1 97 (by omega) (by omega) (by omega)
          have e98 := hr1 98 (by omega) (by omega) (by omega)
          have e100 := hr1 100 (by omega) (by omega) (by omega)
          have hM1 : MR (σ1 94) A := by rw [hr1 94 (by omega) (by omega) (by omega)]; exact hM
          have g2' : nI 0 ≤ σ1 97 kz := by rw [e97]; exact g2
          have e1 : σ1 100 zz = nI n := by rw [e100]; exact y2
          have e2 : su (su (su σ1 100 zz (nI 2)) 101 zz (nI kz)) 102 zz (nI 0) 98 kz = nI m := by rw [su_row (by decide), su_row (by decide), su_row (by decide), e98]; exact s4
          obtain ⟨σ2, b1, b2, b3, b4⟩ := k_lay_l (E := E) (d := d + 50) (σ := su (su (su (su σ1 100 zz (nI 2)) 101 zz (nI kz)) 102 zz (nI 0)) 103 zz (nI m)) (zz := zz) (kz := kz) (v4 := some (.int (nI 1))) (v5 := none) (wv := nI 2) (rv := nI n) hz hk 24 0 _ (by omega) Fr.rf (fun i hi => by omega) (fun j _ => rfl)
          have hr2 : ∀ a, (a < 100 ∨ 104 < a) → σ2 a = σ1 a := by
            intro a h1
            rw [b2 a (by simp; omega), su_row (by omega), su_row (by omega), su_row (by omega), su_row (by omega)]
          refine ⟨nI n, σ1, σ2, A, B, im, ?_, ?_, hI.z (fun a h1 h2 => by rw [hr2 a h2, hr1 a (by omega) (by omega) (by omega)]) (RLz_at hZ hz (fun a h1 h2 h3 h4 h5 => by rw [hr2 a (by omega), hr1 a h3 h4 h5]) (fun a h1 h2 j hj => ?_) (fun j hj => ?_) ?_)⟩
          · simp (disch := omega) only [e88_0, e88_1, e88_2, e88_3, e88_6, e88_9, e88_10, e88_11, e88_12, e88_15, e88_18, e88_20, e88_21, e88_22, e88_23, e88_26, e88_27, e88_30, e88_31, e88_34, e88_37, e88_38, e88_39, e88_42, e88_43, e88_44, e88_45, e88_48, e88_51, e88_53, e88_54, e88_55, e88_56, e88_59, e88_60, e88_63, e88_64, e88_65, e88_68, e88_69, e88_72, e88_74, e88_75, e88_76, e88_79, e88_80, e88_81, e88_83, e88_85, e88_88, e88_90, e88_92, e88_93, e88_96, e88_97, e88_98, e88_101, e88_103, e88_104, e88_107, e88_110, e88_111, e88_112, e88_115, e88_117, e88_118, e88_121, e88_124, e88_125, e88_126, e88_129, e88_132, e88_133, e88_134, e88_137, e88_139, e88_142, e88_143, e88_146, e88_147, e88_148, e88_151, e88_154, e88_155, e88_156, e88_159, e88_161, e88_162, e88_165, e88_167, ↓reduceIte, inb_n, ix_n, if_true, ne_eq, Nat.reduceEqDiff, not_false_eq_true, clK_s, tl_s, tl_n, clr_i, clr_n, clr_a, nI_add, c_isWithin, tI_0, tI_1, tI_2, tI_3, tI_4, tI_5, tI_6, tI_7, tI_8, tI_19, tI_20, tI_23, tI_24, tI_29, tI_30, tI_48, tI_50, tI_57, tI_60, tI_97, tI_100, tI_122, tI_200, tI_99999, tI_m1, tI_m99999, hb, hb2, bI_0, Bool.true_eq_false, Bool.false_eq_true, not_true_eq_false, not_false_eq_true, if_false, reduceCtorEq, z21, ho, gX_5, gX_6, q_66, q_67, gH_1 (isH_n hk), s1, hm, gZ_1 (isZ_n hz), gZ_0 (isZ_n hz), pZ_1 (isZ_n hz), c1, vH (isHz_n hz), a1]
          · rw [k_lay_0 (d := d + 48) hM1 h8]
            simp (disch := omega) only [e200_39, e200_41, e200_42, e200_45, e200_48, e200_50, e200_53, e200_55, e200_56, e200_57, e200_58, e200_61, e200_62, e200_65, e200_66, e200_67, e200_70, e200_73, e200_74, e200_75, e200_78, e200_79, e200_80, e200_82, e200_83, e200_86, e200_87, e200_88, e200_89, e200_90, e200_93, e200_94, e200_95, e200_96, e200_99, e200_100, e200_101, e200_102, e200_105, e200_108, e200_109, e200_110, e200_111, e200_114, e200_115, e200_116, e200_117, e200_120, e200_121, e200_122, e200_125, e200_128, e200_129, e200_130, e200_131, e200_132, e200_135, e200_136, e200_139, e200_140, e200_141, e200_144, e200_145, e200_146, e200_147, e200_148, ↓reduceIte, gM_0, a_94, inb_n, ix_n, if_true, ne_eq, Nat.reduceEqDiff, not_false_eq_true, vM, clK_s, tl_s, tl_n, clr_i, clr_n, clr_a, nI_add, k_isSlot, hb, hg, bI_0, Bool.true_eq_false, Bool.false_eq_true, not_true_eq_false, not_false_eq_true, if_false, reduceCtorEq, gM_4, gM_5, gM_7, gM_8, gM_9, gM_10, a_97, a_98, a_100, s_100, s_101, s_102, s_103, g2', z21, e1, e2]
            exact b1
          · rw [b2 a (by simp; omega)]
            simp only [su_at]
            rw [if_neg (fun z => hj z.2), if_neg (fun z => hj z.2), if_neg (fun z => hj z.2), if_neg (fun z => hj z.2), hr1 a (by omega) (by omega) (by omega)]
          · rw [b4 j hj, su_row (by decide), su_row (by decide), su_row (by decide), su_row (by decide), hr1 104 (by omega) (by omega) (by omega)]
          · unfold zCl
            have r100 : σ2 100 zz = nI 2 := by rw [b2 100 (by decide), su_row (by decide), su_row (by decide), su_row (by decide), su_rf, pk_us]
            have r103 : σ2 103 zz = nI m := by rw [b2 103 (by decide), su_rf, pk_us]
            rw [r100, r103, hr2 _ (by omega), hr2 (78 + 3 * zz + 1) (by omega), hr2 (78 + 3 * zz + 1 + 1) (by omega)]
            refine ⟨t1, ⟨2, by omega, rfl⟩, fun z => absurd z z21, fun _ => ⟨?_, ⟨m, hm4, rfl⟩, ?_⟩, fun z => absurd z z23⟩
            · rw [a4, su_row (by omega), s2, s4]
            · intro i hi
              rw [a3 i hi, su_row (by omega), b3 i hi, su_row (by decide), su_row (by decide), su_row (by decide), su_row (by decide), hr1 99 (by omega) (by omega) (by omega)]
              exact (s5 i hi).1
end Lay
