/-! COPYING -/
theorem cmp_le {xv yv : Int64} : (lg_cmp xv yv ≤ nI 0) ↔ ¬ yv < xv := by
  rw [← cmp_gt]
  exact Int32.not_lt.symm
theorem l64_add {xv yv : Int32} : (xv.toInt64 + yv.toInt64).toInt = xv.toInt + yv.toInt := by
  have h1 := Int32.toInt_lt xv
  have h2 := Int32.le_toInt xv
  have h3 := Int32.toInt_lt yv
  have h4 := Int32.le_toInt yv
  rw [Int64.toInt_add, Int32.toInt_toInt64, Int32.toInt_toInt64]
  exact Int.bmod_eq_of_le (by omega) (by omega)
def partB (n : Nat) (pv mv : Int32) : Bool := decide (0 ≤ pv.toInt ∧ 0 ≤ mv.toInt ∧ pv.toInt + mv.toInt ≤ n)
theorem neg_i {xv : Int32} : (xv < nI 0) ↔ xv.toInt < 0 := by rw [Int32.lt_iff_toInt_lt, nI_toInt (by omega)]; omega
theorem nn_ex {xv : Int32} (h : ¬ xv < nI 0) : ∃ kz : Nat, kz < 2 ^ 31 ∧ xv = nI kz := by
  have h1 : ¬ xv.toInt < 0 := fun z => h (neg_i.mpr z)
  have h2 := Int32.toInt_lt xv
  refine ⟨xv.toInt.toNat, by omega, ?_⟩
  apply Int32.toInt_inj.mp
  rw [nI_toInt (by omega)]
  omega
section Copy
variable {E : aE} {d h : Nat} {σ : Nat → Nat → Int32} {A B : Tn} {im : Bool}
theorem c_hasPart {n : Nat} {pv mv : Int32} (hH : isH h) (hn : n ≤ 24) (e2 : σ h 2 = nI n) : Rn E d 25 0 [some (.ref h), some (.int pv), some (.int mv)] [] (shp, σ) = some (some (.int (bI (partB n pv mv))), (shp, σ)) := by
  by_cases h1 : pv < nI 0
  · have hb : partB n pv mv = false := decide_eq_false (by have := neg_i.mp h1; omega)
    simp (disch := omega) only [e25_0, e25_1, e25_4, e25_5, e25_8, e25_9, e25_10, e25_13, e25_16, e25_17, e25_18, e25_21, e25_22, e25_23, e25_26, e25_27, e25_30, e25_31, ↓reduceIte, inb_n, ix_n, if_true, ne_eq, Nat.reduceEqDiff, not_false_eq_true, clK_s, tl_s, tl_n, clr_i, clr_n, clr_a, nI_add, h1, rz_0, hb]
  · by_cases h2 : mv < nI 0
    · have hb : partB n pv mv = false := decide_eq_false (by have := neg_i.mp h2; omega)
      simp (disch := omega) only [e25_0, e25_1, e25_4, e25_5, e25_8, e25_9, e25_10, e25_13, e25_16, e25_17, e25_18, e25_21, e25_22, e25_23, e25_26, e25_27, e25_30, e25_31, ↓reduceIte, inb_n, ix_n, if_true, ne_eq, Nat.reduceEqDiff, not_false_eq_true, clK_s, tl_s, tl_n, clr_i, clr_n, clr_a, nI_add, h1, h2, rz_0, hb]
    · obtain ⟨pz, hp, rfl⟩ := nn_ex h1
      obtain ⟨mz, hm, rfl⟩ := nn_ex h2
      have hb : partB n (nI pz) (nI mz) = decide (pz + mz ≤ n) := by
        unfold partB
        rw [nI_toInt hp, nI_toInt hm]
        congr 1
        apply propext
        omega
      rw [hb]
      by_cases h3 : n < mz
      · have : ¬ pz + mz ≤ n := by omega
        simp (disch := omega) only [e25_0, e25_1, e25_4, e25_5, e25_8, e25_9, e25_10, e25_13, e25_16, e25_17, e25_18, e25_21, e25_22, e25_23, e25_26, e25_27, e25_30, e25_31, ↓reduceIte, inb_n, ix_n, if_true, ne_eq, Nat.reduceEqDiff, not_false_eq_true, clK_s, tl_s, tl_n, clr_i, clr_n, clr_a, nI_add, h1, h2, gH_2 hH, e2, nI_ltI, h3, rz_0, this, decide_false]
      · by_cases h4 : n - mz < pz
        · have : ¬ pz + mz ≤ n := by omega
          simp (disch := omega) only [e25_0, e25_1, e25_4, e25_5, e25_8, e25_9, e25_10, e25_13, e25_16, e25_17, e25_18, e25_21, e25_22, e25_23, e25_26, e25_27, e25_30, e25_31, ↓reduceIte, inb_n, ix_n, if_true, ne_eq, Nat.reduceEqDiff, not_false_eq_true, clK_s, tl_s, tl_n, clr_i, clr_n, clr_a, nI_add, h1, h2, gH_2 hH, e2, nI_ltI, h3, pk_sub, h4, rz_0, this, decide_false]
        · have : pz + mz ≤ n := by omega
          simp (disch := omega) only [e25_0, e25_1, e25_4, e25_5, e25_8, e25_9, e25_10, e25_13, e25_16, e25_17, e25_18, e25_21, e25_22, e25_23, e25_26, e25_27, e25_30, e25_31, ↓reduceIte, inb_n, ix_n, if_true, ne_eq, Nat.reduceEqDiff, not_false_eq_true, clK_s, tl_s, tl_n, clr_i, clr_n, clr_a, nI_add, h1, h2, gH_2 hH, e2, nI_ltI, h3, pk_sub, h4, rz_1, this, decide_true]
theorem shH (hH : isH h) : shp[h + 1]? = some (0, 24, []) := by
  rcases hH with rfl | rfl | rfl | rfl | rfl | rfl | rfl | rfl | rfl <;> rfl
theorem k_copy_0 {fz tz nf nt : Nat} {pv av mv : Int32} (hf : fz < 4) (ht : tz < 4) (h1 : nf ≤ 24) (h2 : nt ≤ 24) (ef : σ 98 fz = nI nf) (et : σ 98 tz = nI nt) : Rn E d 198 57 [some (.ref 93), some (.int (nI fz)), some (.int pv), some (.int (nI tz)), some (.int av), some (.int mv), none] [] (shp, σ) = if (partB nf pv mv && partB nt av mv) = true then Rn E d 198 110 [some (.ref 93), some (.int (nI fz)), some (.int pv), some (.int (nI tz)), some (.int av), some (.int mv), none] [] (shp, σ) else some (some (.int (-1000000013)), (shp, σ)) := by
  by_cases g1 : pv < nI 0
  · have hb : partB nf pv mv = false := decide_eq_false (by have := neg_i.mp g1; omega)
    simp (disch := omega) only [e198_57, e198_58, e198_61, e198_63, e198_66, e198_68, e198_71, e198_72, e198_73, e198_75, e198_76, e198_77, e198_78, e198_81, e198_82, e198_83, e198_84, e198_85, e198_88, e198_90, e198_91, e198_93, e198_94, e198_95, e198_96, e198_99, e198_100, e198_101, e198_102, e198_103, e198_106, e198_109, ↓reduceIte, gM_0, a_94, inb_n, ix_n, if_true, ne_eq, Nat.reduceEqDiff, not_false_eq_true, vM, clK_s, tl_s, tl_n, clr_i, clr_n, clr_a, nI_add, g1, hb, Bool.false_and, Bool.false_eq_true, if_false]
  · by_cases g2 : av < nI 0
    · have hb : partB nt av mv = false := decide_eq_false (by have := neg_i.mp g2; omega)
      simp (disch := omega) only [e198_57, e198_58, e198_61, e198_63, e198_66, e198_68, e198_71, e198_72, e198_73, e198_75, e198_76, e198_77, e198_78, e198_81, e198_82, e198_83, e198_84, e198_85, e198_88, e198_90, e198_91, e198_93, e198_94, e198_95, e198_96, e198_99, e198_100, e198_101, e198_102, e198_103, e198_106, e198_109, ↓reduceIte, gM_0, a_94, inb_n, ix_n, if_true, ne_eq, Nat.reduceEqDiff, not_false_eq_true, vM, clK_s, tl_s, tl_n, clr_i, clr_n, clr_a, nI_add, g1, g2, hb, Bool.and_false, Bool.false_eq_true, if_false]
    · by_cases g3 : mv < nI 0
      · have hb : partB nt av mv = false := decide_eq_false (by have := neg_i.mp g3; omega)
        simp (disch := omega) only [e198_57, e198_58, e198_61, e198_63, e198_66, e198_68, e198_71, e198_72, e198_73, e198_75, e198_76, e198_77, e198_78, e198_81, e198_82, e198_83, e198_84, e198_85, e198_88, e198_90, e198_91, e198_93, e198_94, e198_95, e198_96, e198_99, e198_100, e198_101, e198_102, e198_103, e198_106, e198_109, ↓reduceIte, gM_0, a_94, inb_n, ix_n, if_true, ne_eq, Nat.reduceEqDiff, not_false_eq_true, vM, clK_s, tl_s, tl_n, clr_i, clr_n, clr_a, nI_add, g1, g2, g3, hb, Bool.and_false, Bool.false_eq_true, if_false]
      · have i1 : ¬ pv.toInt < 0 := fun z => g1 (neg_i.mpr z)
        have i2 : ¬ av.toInt < 0 := fun z => g2 (neg_i.mpr z)
        have i3 : ¬ mv.toInt < 0 := fun z => g3 (neg_i.mpr z)
        have t1 : ((nI nf).toInt64 < pv.toInt64 + mv.toInt64) ↔ (nf : Int) < pv.toInt + mv.toInt := by rw [Int64.lt_iff_toInt_lt, l64_add, Int32.toInt_toInt64, nI_toInt (by omega)]
        have t2 : ((nI nt).toInt64 < av.toInt64 + mv.toInt64) ↔ (nt : Int) < av.toInt + mv.toInt := by rw [Int64.lt_iff_toInt_lt, l64_add, Int32.toInt_toInt64, nI_toInt (by omega)]
        by_cases g4 : (nf : Int) < pv.toInt + mv.toInt
        · have hb : partB nf pv mv = false := decide_eq_false (by omega)
          simp (disch := omega) only [e198_57, e198_58, e198_61, e198_63, e198_66, e198_68, e198_71, e198_72, e198_73, e198_75, e198_76, e198_77, e198_78, e198_81, e198_82, e198_83, e198_84, e198_85, e198_88, e198_90, e198_91, e198_93, e198_94, e198_95, e198_96, e198_99, e198_100, e198_101, e198_102, e198_103, e198_106, e198_109, ↓reduceIte, gM_0, a_94, inb_n, ix_n, if_true, ne_eq, Nat.reduceEqDiff, not_false_eq_true, vM, clK_s, tl_s, tl_n, clr_i, clr_n, clr_a, nI_add, g1, g2, g3, gM_5, a_98, ef, cmp_gt, t1, g4, hb, Bool.false_and, Bool.false_eq_true, if_false]
        · have hb : partB nf pv mv = true := decide_eq_true (by omega)
          by_cases g5 : (nt : Int) < av.toInt + mv.toInt
          · have hb2 : partB nt av mv = false := decide_eq_false (by omega)
            simp (disch := omega) only [e198_57, e198_58, e198_61, e198_63, e198_66, e198_68, e198_71, e198_72, e198_73, e198_75, e198_76, e198_77, e198_78, e198_81, e198_82, e198_83, e198_84, e198_85, e198_88, e198_90, e198_91, e198_93, e198_94, e198_95, e198_96, e198_99, e198_100, e198_101, e198_102, e198_103, e198_106, e198_109, ↓reduceIte, gM_0, a_94, inb_n, ix_n, if_true, ne_eq, Nat.reduceEqDiff, not_false_eq_true, vM, clK_s, tl_s, tl_n, clr_i, clr_n, clr_a, nI_add, g1, g2, g3, gM_5, a_98, ef, et, cmp_gt, cmp_le, t1, t2, g4, g5, hb2, Bool.and_false, Bool.false_eq_true, if_false, not_true_eq_false]
          · have hb2 : partB nt av mv = true := decide_eq_true (by omega)
            simp (disch := omega) only [e198_57, e198_58, e198_61, e198_63, e198_66, e198_68, e198_71, e198_72, e198_73, e198_75, e198_76, e198_77, e198_78, e198_81, e198_82, e198_83, e198_84, e198_85, e198_88, e198_90, e198_91, e198_93, e198_94, e198_95, e198_96, e198_99, e198_100, e198_101, e198_102, e198_103, e198_106, e198_109, ↓reduceIte, gM_0, a_94, inb_n, ix_n, if_true, ne_eq, Nat.reduceEqDiff, not_false_eq_true, vM, clK_s, tl_s, tl_n, clr_i, clr_n, clr_a, nI_add, g1, g2, g3, gM_5, a_98, ef, et, cmp_gt, cmp_le, t1, t2, g4, g5, hb, hb2, Bool.and_self, if_true, if_false]
theorem k_copy_1 {fz tz pz az mz : Nat} (hf : fz < 4) (hp : pz + mz ≤ 24) : ∀ r iz (σ1 : Nat → Nat → Int32), iz + r = mz → Fr [110] σ σ1 → (∀ i, i < iz → σ1 110 i = σ 99 (24 * fz + pz + i)) →
    ∃ σ2, Rn E d 198 113 [some (.ref 93), some (.int (nI fz)), some (.int (nI pz)), some (.int (nI tz)), some (.int (nI az)), some (.int (nI mz)), some (.int (nI iz))] [] (shp, σ1) = Rn E d 198 150 [some (.ref 93), some (.int (nI fz)), some (.int (nI pz)), some (.int (nI tz)), some (.int (nI az)), some (.int (nI mz)), some (.int (nI 0))] [] (shp, σ2) ∧ Fr [110] σ σ2 ∧ ∀ i, i < mz → σ2 110 i = σ 99 (24 * fz + pz + i) := by
  intro r
  induction r with
  | zero =>
    intro iz σ1 hi hr hc
    have h1 : mz ≤ iz := by omega
    exact ⟨σ1, by rw [e198_113]; simp (disch := omega) only [e198_115, e198_117, e198_120, e198_121, e198_124, e198_126, e198_127, e198_130, e198_132, e198_133, e198_134, e198_135, e198_136, e198_138, e198_139, e198_140, e198_141, e198_144, e198_147, e198_148, ↓reduceIte, gM_0, a_94, inb_n, ix_n, if_true, ne_eq, Nat.reduceEqDiff, not_false_eq_true, vM, clK_s, tl_s, tl_n, clr_i, clr_n, clr_a, nI_add, nI_leI, h1], hr, fun i hj => hc i (by omega)⟩
  | succ r ih =>
    intro iz σ1 hi hr hc
    have h1 : ¬ mz ≤ iz := by omega
    have e99 : σ1 99 = σ 99 := hr 99 (by decide)
    obtain ⟨σ2, g1, g2⟩ := ih (iz + 1) (su σ1 110 iz (σ 99 (24 * fz + pz + iz))) (by omega) (hr.su (by decide)) (by
      intro i hj
      rw [su_rf]
      by_cases hq : i = iz
      · rw [hq, pk_us]
      · rw [pk_un hq]; exact hc i (by omega))
    refine ⟨σ2, ?_, g2⟩
    rw [← g1]
    conv => lhs; rw [e198_113]
    simp (disch := omega) only [e198_115, e198_117, e198_120, e198_121, e198_124, e198_126, e198_127, e198_130, e198_132, e198_133, e198_134, e198_135, e198_136, e198_138, e198_139, e198_140, e198_141, e198_144, ↓reduceIte, gM_0, a_94, inb_n, ix_n, if_true, ne_eq, Nat.reduceEqDiff, not_false_eq_true, vM, clK_s, tl_s, tl_n, clr_i, clr_n, clr_a, nI_add, nI_leI, h1, gM_28, gM_6, s_110, a_99, pk_mul, e99]
theorem k_copy_2 {fz tz pz az mz : Nat} (ht : tz < 4) (hp : az + mz ≤ 24) : ∀ r iz (σ1 : Nat → Nat → Int32), iz + r = mz → Fr [99] σ σ1 → (∀ j, σ1 99 j = if 24 * tz + az ≤ j ∧ j < 24 * tz + az + iz then σ 110 (j - (24 * tz + az)) else σ 99 j) →
    ∃ σ2, Rn E d 198 150 [some (.ref 93), some (.int (nI fz)), some (.int (nI pz)), some (.int (nI tz)), some (.int (nI az)), some (.int (nI mz)), some (.int (nI iz))] [] (shp, σ1) = some (some (.int (nI mz)), (shp, σ2)) ∧ Fr [99] σ σ2 ∧ ∀ j, σ2 99 j = if 24 * tz + az ≤ j ∧ j < 24 * tz + az + mz then σ 110 (j - (24 * tz + az)) else σ 99 j := by
  intro r
  induction r with
  | zero =>
    intro iz σ1 hi hr hc
    have h1 : mz ≤ iz := by omega
    have h2 : iz = mz := by omega
    exact ⟨σ1, by rw [e198_150]; simp (disch := omega) only [e198_152, e198_154, e198_157, e198_158, e198_161, e198_163, e198_164, e198_165, e198_167, e198_168, e198_170, e198_171, e198_172, e198_175, e198_177, e198_178, e198_179, e198_182, e198_185, e198_187, ↓reduceIte, gM_0, a_94, inb_n, ix_n, if_true, ne_eq, Nat.reduceEqDiff, not_false_eq_true, vM, clK_s, tl_s, tl_n, clr_i, clr_n, clr_a, nI_add, nI_leI, h1], hr, by rw [← h2]; exact hc⟩
  | succ r ih =>
    intro iz σ1 hi hr hc
    have h1 : ¬ mz ≤ iz := by omega
    have e110 : σ1 110 = σ 110 := hr 110 (by decide)
    obtain ⟨σ2, g1, g2⟩ := ih (iz + 1) (su σ1 99 (24 * tz + az + iz) (σ 110 iz)) (by omega) (hr.su (by decide)) (by
      intro j
      rw [su_rf]
      by_cases hq : j = 24 * tz + az + iz
      · rw [hq, pk_us, if_pos (by omega)]
        congr 1
        omega
      · rw [pk_un hq, hc j]
        by_cases hw : 24 * tz + az ≤ j ∧ j < 24 * tz + az + iz
        · rw [if_pos hw, if_pos (by omega)]
        · rw [if_neg hw, if_neg (by omega)])
    refine ⟨σ2, ?_, g2⟩
    rw [← g1]
    conv => lhs; rw [e198_150]
    simp (disch := omega) only [e198_152, e198_154, e198_157, e198_158, e198_161, e198_163, e198_164, e198_165, e198_167, e198_168, e198_170, e198_171, e198_172, e198_175, e198_177, e198_178, e198_179, e198_182, ↓reduceIte, gM_0, a_94, inb_n, ix_n, if_true, ne_eq, Nat.reduceEqDiff, not_false_eq_true, vM, clK_s, tl_s, tl_n, clr_i, clr_n, clr_a, nI_add, nI_leI, h1, gM_28, gM_6, a_110, s_99, pk_mul, e110]
theorem op_copy {xv pv yv av mv : Int32} (hI : INV σ A B im) : OK2 σ (Rn E (d + 50) 87 0 [some (.ref 0), some (.int xv), some (.int pv), some (.int yv), some (.int av), some (.int mv), none, none] []) (Rn E (d + 50) 198 0 [some (.ref 93), some (.int xv), some (.int pv), some (.int yv), some (.int av), some (.int mv), none] []) := by
  obtain ⟨_, _, hL⟩ := id hI
  have hS := hL.1
  cases hb : rg 0 3 xv with
  | false =>
    refine ok_read (vv := (-1000000001)) hI ?_ ?_
    · simp (disch := omega) only [e87_0, e87_1, e87_2, e87_3, e87_6, e87_9, e87_10, e87_11, e87_12, e87_15, e87_18, e87_20, e87_21, e87_22, e87_25, e87_26, e87_27, e87_29, e87_30, e87_33, e87_34, e87_35, e87_37, e87_39, e87_42, e87_43, e87_46, e87_48, e87_51, e87_52, e87_55, e87_57, e87_58, e87_60, e87_63, e87_65, e87_68, e87_71, e87_73, e87_74, e87_76, e87_77, e87_79, e87_82, e87_85, e87_87, e87_89, e87_91, e87_94, e87_97, e87_99, e87_100, e87_102, e87_105, e87_106, e87_108, e87_111, e87_113, e87_115, e87_118, e87_120, ↓reduceIte, inb_n, ix_n, if_true, ne_eq, Nat.reduceEqDiff, not_false_eq_true, clK_s, tl_s, tl_n, clr_i, clr_n, clr_a, nI_add, c_isWithin, tI_0, tI_1, tI_2, tI_3, tI_4, tI_5, tI_6, tI_7, tI_8, tI_19, tI_20, tI_23, tI_24, tI_29, tI_30, tI_48, tI_50, tI_57, tI_60, tI_97, tI_100, tI_122, tI_200, tI_99999, tI_m1, tI_m99999, hb, bI_0, Bool.true_eq_false, Bool.false_eq_true, not_true_eq_false, not_false_eq_true, if_false, reduceCtorEq]
    · simp (disch := omega) only [e198_0, e198_1, e198_4, e198_7, e198_8, e198_11, e198_14, e198_16, ↓reduceIte, gM_0, a_94, inb_n, ix_n, if_true, ne_eq, Nat.reduceEqDiff, not_false_eq_true, vM, clK_s, tl_s, tl_n, clr_i, clr_n, clr_a, nI_add, k_isSheet, hb, bI_0, Bool.true_eq_false, Bool.false_eq_true, not_true_eq_false, not_false_eq_true, if_false, reduceCtorEq]
  | true =>
  cases hb2 : rg 0 3 yv with
  | false =>
    refine ok_read (vv := (-1000000001)) hI ?_ ?_
    · simp (disch := omega) only [e87_0, e87_1, e87_2, e87_3, e87_6, e87_9, e87_10, e87_11, e87_12, e87_15, e87_18, e87_20, e87_21, e87_22, e87_25, e87_26, e87_27, e87_29, e87_30, e87_33, e87_34, e87_35, e87_37, e87_39, e87_42, e87_43, e87_46, e87_48, e87_51, e87_52, e87_55, e87_57, e87_58, e87_60, e87_63, e87_65, e87_68, e87_71, e87_73, e87_74, e87_76, e87_77, e87_79, e87_82, e87_85, e87_87, e87_89, e87_91, e87_94, e87_97, e87_99, e87_100, e87_102, e87_105, e87_106, e87_108, e87_111, e87_113, e87_115, e87_118, e87_120, ↓reduceIte, inb_n, ix_n, if_true, ne_eq, Nat.reduceEqDiff, not_false_eq_true, clK_s, tl_s, tl_n, clr_i, clr_n, clr_a, nI_add, c_isWithin, tI_0, tI_1, tI_2, tI_3, tI_4, tI_5, tI_6, tI_7, tI_8, tI_19, tI_20, tI_23, tI_24, tI_29, tI_30, tI_48, tI_50, tI_57, tI_60, tI_97, tI_100, tI_122, tI_200, tI_99999, tI_m1, tI_m99999, hb, hb2, bI_0, Bool.true_eq_false, Bool.false_eq_true, not_true_eq_false, not_false_eq_true, if_false, reduceCtorEq]
    · simp (disch := omega) only [e198_0, e198_1, e198_4, e198_7, e198_8, e198_11, e198_14, e198_16, ↓reduceIte, gM_0, a_94, inb_n, ix_n, if_true, ne_eq, Nat.reduceEqDiff, not_false_eq_true, vM, clK_s, tl_s, tl_n, clr_i, clr_n, clr_a, nI_add, k_isSheet, hb, hb2, bI_0, Bool.true_eq_false, Bool.false_eq_true, not_true_eq_false, not_false_eq_true, if_false, reduceCtorEq]
  | true =>
    obtain ⟨fz, hf, rfl⟩ := rg_e (n := 3) rfl hb
    obtain ⟨tz, ht, rfl⟩ := rg_e (n := 3) rfl hb2
    have hf : fz < 4 := by omega
    have ht : tz < 4 := by omega
    obtain ⟨s1, s2, s3, ⟨nf, hnf, s4⟩, s5⟩ := hS fz hf
    obtain ⟨t1, t2, t3, ⟨nt, hnt, t4⟩, t5⟩ := hS tz ht
    obtain ⟨sn1, sn2⟩ := sort_neg s3
    obtain ⟨tn1, tn2⟩ := sort_neg t3
    have cs : σ (70 + 2 * fz) 2 = nI nf := by rw [s2, s4]
    have ct : σ (70 + 2 * tz) 2 = nI nt := by rw [t2, t4]
    by_cases hm : σ 97 fz = (-1)
    · have g := sn1.mpr hm
      refine ok_read (vv := (-1000000011)) hI ?_ ?_
      · simp (disch := omega) only [e87_0, e87_1, e87_2, e87_3, e87_6, e87_9, e87_10, e87_11, e87_12, e87_15, e87_18, e87_20, e87_21, e87_22, e87_25, e87_26, e87_27, e87_29, e87_30, e87_33, e87_34, e87_35, e87_37, e87_39, e87_42, e87_43, e87_46, e87_48, e87_51, e87_52, e87_55, e87_57, e87_58, e87_60, e87_63, e87_65, e87_68, e87_71, e87_73, e87_74, e87_76, e87_77, e87_79, e87_82, e87_85, e87_87, e87_89, e87_91, e87_94, e87_97, e87_99, e87_100, e87_102, e87_105, e87_106, e87_108, e87_111, e87_113, e87_115, e87_118, e87_120, ↓reduceIte, inb_n, ix_n, if_true, ne_eq, Nat.reduceEqDiff, not_false_eq_true, clK_s, tl_s, tl_n, clr_i, clr_n, clr_a, nI_add, c_isWithin, tI_0, tI_1, tI_2, tI_3, tI_4, tI_5, tI_6, tI_7, tI_8, tI_19, tI_20, tI_23, tI_24, tI_29, tI_30, tI_48, tI_50, tI_57, tI_60, tI_97, tI_100, tI_122, tI_200, tI_99999, tI_m1, tI_m99999, hb, hb2, bI_0, Bool.true_eq_false, Bool.false_eq_true, not_true_eq_false, not_false_eq_true, if_false, reduceCtorEq, gX_5, q_66, gH_1 (isH_n hf), gH_1 (isH_n ht), s1, hm]
      · simp (disch := omega) only [e198_0, e198_1, e198_4, e198_7, e198_8, e198_11, e198_14, e198_16, e198_17, e198_18, e198_21, e198_22, e198_23, e198_26, e198_27, e198_30, e198_31, e198_32, e198_35, e198_38, ↓reduceIte, gM_0, a_94, inb_n, ix_n, if_true, ne_eq, Nat.reduceEqDiff, not_false_eq_true, vM, clK_s, tl_s, tl_n, clr_i, clr_n, clr_a, nI_add, k_isSheet, hb, hb2, bI_0, Bool.true_eq_false, Bool.false_eq_true, not_true_eq_false, not_false_eq_true, if_false, reduceCtorEq, gM_4, a_97, g]
    · have g : ¬ σ 97 fz < nI 0 := fun z => hm (sn1.mp z)
      by_cases hm2 : σ 97 tz = (-1)
      · have g2 : ¬ nI 0 ≤ σ 97 tz := fun z => tn2.mp z hm2
        refine ok_read (vv := (-1000000011)) hI ?_ ?_
        · simp (disch := omega) only [e87_0, e87_1, e87_2, e87_3, e87_6, e87_9, e87_10, e87_11, e87_12, e87_15, e87_18, e87_20, e87_21, e87_22, e87_25, e87_26, e87_27, e87_29, e87_30, e87_33, e87_34, e87_35, e87_37, e87_39, e87_42, e87_43, e87_46, e87_48, e87_51, e87_52, e87_55, e87_57, e87_58, e87_60, e87_63, e87_65, e87_68, e87_71, e87_73, e87_74, e87_76, e87_77, e87_79, e87_82, e87_85, e87_87, e87_89, e87_91, e87_94, e87_97, e87_99, e87_100, e87_102, e87_105, e87_106, e87_108, e87_111, e87_113, e87_115, e87_118, e87_120, ↓reduceIte, inb_n, ix_n, if_true, ne_eq, Nat.reduceEqDiff, not_false_eq_true, clK_s, tl_s, tl_n, clr_i, clr_n, clr_a, nI_add, c_isWithin, tI_0, tI_1, tI_2, tI_3, tI_4, tI_5, tI_6, tI_7, tI_8, tI_19, tI_20, tI_23, tI_24, tI_29, tI_30, tI_48, tI_50, tI_57, tI_60, tI_97, tI_100, tI_122, tI_200, tI_99999, tI_m1, tI_m99999, hb, hb2, bI_0, Bool.true_eq_false, Bool.false_eq_true, not_true_eq_false, not_false_eq_true, if_false, reduceCtorEq, gX_5, q_66, gH_1 (isH_n hf), gH_1 (isH_n ht), s1, hm, t1, hm2]
        · simp (disch := omega) only [e198_0, e198_1, e198_4, e198_7, e198_8, e198_11, e198_14, e198_16, e198_17, e198_18, e198_21, e198_22, e198_23, e198_26, e198_27, e198_30, e198_31, e198_32, e198_35, e198_38, ↓reduceIte, gM_0, a_94, inb_n, ix_n, if_true, ne_eq, Nat.reduceEqDiff, not_false_eq_true, vM, clK_s, tl_s, tl_n, clr_i, clr_n, clr_a, nI_add, k_isSheet, hb, hb2, bI_0, Bool.true_eq_false, Bool.false_eq_true, not_true_eq_false, not_false_eq_true, if_false, reduceCtorEq, gM_4, a_97, g, g2]
      · have g2 : nI 0 ≤ σ 97 tz := tn2.mpr hm2
        by_cases hsame : σ 97 fz = σ 97 tz
        · have hcls : Rn E (d + 50) 87 0 [some (.ref 0), some (.int (nI fz)), some (.int pv), some (.int (nI tz)), some (.int av), some (.int mv), none, none] [] (shp, σ) = Rn E (d + 50) 87 74 [some (.ref 0), some (.int (nI fz)), some (.int pv), some (.int (nI tz)), some (.int av), some (.int mv), some (.ref (70 + 2 * fz)), some (.ref (70 + 2 * tz))] [] (shp, σ) := by
            simp (disch := omega) only [e87_0, e87_1, e87_2, e87_3, e87_6, e87_9, e87_10, e87_11, e87_12, e87_15, e87_18, e87_20, e87_21, e87_22, e87_25, e87_26, e87_27, e87_29, e87_30, e87_33, e87_34, e87_35, e87_37, e87_39, e87_42, e87_43, e87_46, e87_48, e87_51, e87_52, e87_55, e87_57, e87_58, e87_60, e87_63, e87_65, ↓reduceIte, inb_n, ix_n, if_true, ne_eq, Nat.reduceEqDiff, not_false_eq_true, clK_s, tl_s, tl_n, clr_i, clr_n, clr_a, nI_add, c_isWithin, tI_0, tI_1, tI_2, tI_3, tI_4, tI_5, tI_6, tI_7, tI_8, tI_19, tI_20, tI_23, tI_24, tI_29, tI_30, tI_48, tI_50, tI_57, tI_60, tI_97, tI_100, tI_122, tI_200, tI_99999, tI_m1, tI_m99999, hb, hb2, bI_0, Bool.true_eq_false, Bool.false_eq_true, not_true_eq_false, not_false_eq_true, if_false, reduceCtorEq, gX_5, q_66, gH_1 (isH_n hf), gH_1 (isH_n ht), s1, t1]
            rw [if_neg hm, if_pos hm2]
            rw [e87_68, if_pos hsame]
          have href : ∀ σ1 : Nat → Nat → Int32, σ1 97 = σ 97 → Rn E (d + 50) 198 0 [some (.ref 93), some (.int (nI fz)), some (.int pv), some (.int (nI tz)), some (.int av), some (.int mv), none] [] (shp, σ1) = Rn E (d + 50) 198 57 [some (.ref 93), some (.int (nI fz)), some (.int pv), some (.int (nI tz)), some (.int av), some (.int mv), none] [] (shp, σ1) := by
            intro σ1 e1
            simp (disch := omega) only [e198_0, e198_1, e198_4, e198_7, e198_8, e198_11, e198_14, e198_16, e198_17, e198_18, e198_21, e198_22, e198_23, e198_26, e198_27, e198_30, e198_31, e198_32, e198_35, e198_38, e198_39, e198_40, e198_43, e198_44, e198_45, e198_46, e198_49, e198_50, ↓reduceIte, gM_0, a_94, inb_n, ix_n, if_true, ne_eq, Nat.reduceEqDiff, not_false_eq_true, vM, clK_s, tl_s, tl_n, clr_i, clr_n, clr_a, nI_add, k_isSheet, hb, hb2, bI_0, Bool.true_eq_false, Bool.false_eq_true, not_true_eq_false, not_false_eq_true, if_false, reduceCtorEq, gM_4, a_97, e1, g, g2]
            rw [e198_51, if_pos hsame]
          cases hpq : (partB nf pv mv && partB nt av mv) with
          | false =>
            refine ok_read (vv := (-1000000013)) hI ?_ ?_
            · rw [hcls]
              cases hp1 : partB nf pv mv with
              | false => simp (disch := omega) only [e87_74, e87_76, e87_77, e87_79, e87_82, e87_85, e87_87, e87_89, e87_91, e87_94, e87_97, e87_99, ↓reduceIte, inb_n, ix_n, if_true, ne_eq, Nat.reduceEqDiff, not_false_eq_true, clK_s, tl_s, tl_n, clr_i, clr_n, clr_a, nI_add, vH (isH_n hf), c_hasPart (isH_n hf) hnf cs, hp1, bI_0, Bool.true_eq_false, Bool.false_eq_true, not_true_eq_false, not_false_eq_true, if_false, reduceCtorEq]
              | true =>
                rw [hp1, Bool.true_and] at hpq
                simp (disch := omega) only [e87_74, e87_76, e87_77, e87_79, e87_82, e87_85, e87_87, e87_89, e87_91, e87_94, e87_97, e87_99, ↓reduceIte, inb_n, ix_n, if_true, ne_eq, Nat.reduceEqDiff, not_false_eq_true, clK_s, tl_s, tl_n, clr_i, clr_n, clr_a, nI_add, vH (isH_n hf), vH (isH_n ht), c_hasPart (isH_n hf) hnf cs, c_hasPart (isH_n ht) hnt ct, hp1, hpq, bI_0, Bool.true_eq_false, Bool.false_eq_true, not_true_eq_false, not_false_eq_true, if_false, reduceCtorEq]
            · rw [href σ rfl, k_copy_0 hf ht hnf hnt s4 t4, hpq, if_neg (by decide)]
          | true =>
            simp only [Bool.and_eq_true] at hpq
            obtain ⟨q1, q2⟩ := hpq
            have r1 := of_decide_eq_true q1
            have r2 := of_decide_eq_true q2
            obtain ⟨pz, hp, rfl⟩ := nn_ex (xv := pv) (fun z => by have := neg_i.mp z; omega)
            obtain ⟨az, ha, rfl⟩ := nn_ex (xv := av) (fun z => by have := neg_i.mp z; omega)
            obtain ⟨mz, hmz, rfl⟩ := nn_ex (xv := mv) (fun z => by have := neg_i.mp z; omega)
            rw [nI_toInt hp, nI_toInt hmz] at r1
            rw [nI_toInt ha, nI_toInt hmz] at r2
            have hrow : ∀ a, a ≠ 70 + 2 * tz + 1 → sr σ (70 + 2 * tz + 1) (va_cpy (σ (70 + 2 * fz + 1)) (σ (70 + 2 * tz + 1)) pz az mz) a = σ a := fun a ha => sr_ne ha
            have e97 := hrow 97 (by omega)
            have e98 := hrow 98 (by omega)
            have e99 := hrow 99 (by omega)
            obtain ⟨σ2, a1, a2, a3⟩ := k_copy_1 (E := E) (d := d + 50) (σ := sr σ (70 + 2 * tz + 1) (va_cpy (σ (70 + 2 * fz + 1)) (σ (70 + 2 * tz + 1)) pz az mz)) (fz := fz) (tz := tz) (pz := pz) (az := az) (mz := mz) hf (by omega) mz 0 _ (by omega) Fr.rf (fun i hi => by omega)
            obtain ⟨σ3, b1, b2, b3⟩ := k_copy_2 (E := E) (d := d + 50) (σ := σ2) (fz := fz) (tz := tz) (pz := pz) (az := az) (mz := mz) ht (by omega) mz 0 σ2 (by omega) Fr.rf (fun j => by rw [if_neg (by omega)])
            have hr3 : ∀ a, a ≠ 99 → a ≠ 110 → a ≠ 70 + 2 * tz + 1 → σ3 a = σ a := by
              intro a h1 h2 h3
              rw [b2 a (by simpa using h1), a2 a (by simpa using h2), hrow a h3]
            have c99 : ∀ j, σ3 99 j = if 24 * tz + az ≤ j ∧ j < 24 * tz + az + mz then σ 99 (24 * fz + pz + (j - (24 * tz + az))) else σ 99 j := by
              intro j
              rw [b3 j]
              by_cases hw : 24 * tz + az ≤ j ∧ j < 24 * tz + az + mz
              · rw [if_pos hw, if_pos hw, a3 _ (by omega), e99]
              · rw [if_neg hw, if_neg hw, a2 99 (by decide), e99]
            have cT : ∀ i, σ3 (70 + 2 * tz + 1) i = if az ≤ i ∧ i < az + mz then σ (70 + 2 * fz + 1) (pz + (i - az)) else σ (70 + 2 * tz + 1) i := by
              intro i
              rw [b2 _ (by simp; omega), a2 _ (by simp; omega), sr_eq]
              by_cases hw : az ≤ i ∧ i < az + mz
              · rw [if_pos hw, pk_cpy_in hw.1 hw.2]
              · rw [if_neg hw, pk_cpy_out (by omega)]
            refine ⟨nI mz, sr σ (70 + 2 * tz + 1) (va_cpy (σ (70 + 2 * fz + 1)) (σ (70 + 2 * tz + 1)) pz az mz), σ3, A, B, im, ?_, ?_, hI.s (fun a h1 h2 h3 h4 h5 => hr3 a h4 h5 (by omega)) ?_⟩
            · rw [hcls]
              have P : ∀ (K : aSt → Option aRs), cpK (shp, σ) (70 + 2 * fz + 1) (nI pz) (70 + 2 * tz + 1) (nI az) (nI mz) K = K (shp, sr σ (70 + 2 * tz + 1) (va_cpy (σ (70 + 2 * fz + 1)) (σ (70 + 2 * tz + 1)) pz az mz)) := fun K => cpG (shH (isH_n hf)) (shH (isH_n ht)) (by omega) (by omega) (by omega) (by omega)
              simp (disch := omega) only [e87_74, e87_76, e87_77, e87_79, e87_82, e87_85, e87_87, e87_89, e87_91, e87_94, e87_97, e87_99, e87_100, e87_102, e87_105, e87_106, e87_108, e87_111, e87_113, e87_115, e87_118, e87_120, ↓reduceIte, inb_n, ix_n, if_true, ne_eq, Nat.reduceEqDiff, not_false_eq_true, clK_s, tl_s, tl_n, clr_i, clr_n, clr_a, nI_add, vH (isH_n hf), vH (isH_n ht), c_hasPart (isH_n hf) hnf cs, c_hasPart (isH_n ht) hnt ct, q1, q2, bI_0, Bool.true_eq_false, Bool.false_eq_true, not_true_eq_false, not_false_eq_true, if_false, reduceCtorEq, gH_0 (isH_n hf), gH_0 (isH_n ht), P]
            · rw [href _ e97, k_copy_0 hf ht hnf hnt (by rw [e98]; exact s4) (by rw [e98]; exact t4), q1, q2, if_pos (show (true && true) = true from rfl)]
              simp only [e198_110, e198_111, ↓reduceIte, gM_0, a_94, inb_n, ix_n, if_true, ne_eq, Nat.reduceEqDiff, not_false_eq_true, vM, clK_s, tl_s, tl_n, clr_i, clr_n, clr_a, nI_add]
              exact a1.trans b1
            · intro j hj
              obtain ⟨u1, u2, u3, u4, u5⟩ := hS j hj
              rw [hr3 97 (by omega) (by omega) (by omega), hr3 98 (by omega) (by omega) (by omega), hr3 (70 + 2 * j) (by omega) (by omega) (by omega)]
              refine ⟨u1, u2, u3, u4, fun i hi => ?_⟩
              rw [c99]
              by_cases hjt : j = tz
              · subst hjt
                rw [cT]
                by_cases hw : az ≤ i ∧ i < az + mz
                · rw [if_pos hw, if_pos (by omega), show 24 * fz + pz + (24 * j + i - (24 * j + az)) = 24 * fz + (pz + (i - az)) by omega]
                  exact s5 _ (by omega)
                · rw [if_neg hw, if_neg (by omega)]
                  exact t5 i hi
              · rw [if_neg (by omega), hr3 (70 + 2 * j + 1) (by omega) (by omega) (by omega)]
                exact u5 i hi
        · refine ok_read (vv := (-1000000012)) hI ?_ ?_
          · simp (disch := omega) only [e87_0, e87_1, e87_2, e87_3, e87_6, e87_9, e87_10, e87_11, e87_12, e87_15, e87_18, e87_20, e87_21, e87_22, e87_25, e87_26, e87_27, e87_29, e87_30, e87_33, e87_34, e87_35, e87_37, e87_39, e87_42, e87_43, e87_46, e87_48, e87_51, e87_52, e87_55, e87_57, e87_58, e87_60, e87_63, e87_65, e87_68, e87_71, e87_73, e87_74, e87_76, e87_77, e87_79, e87_82, e87_85, e87_87, e87_89, e87_91, e87_94, e87_97, e87_99, e87_100, e87_102, e87_105, e87_106, e87_108, e87_111, e87_113, e87_115, e87_118, e87_120, ↓reduceIte, inb_n, ix_n, if_true, ne_eq, Nat.reduceEqDiff, not_false_eq_true, clK_s, tl_s, tl_n, clr_i, clr_n, clr_a, nI_add, c_isWithin, tI_0, tI_1, tI_2, tI_3, tI_4, tI_5, tI_6, tI_7, tI_8, tI_19, tI_20, tI_23, tI_24, tI_29, tI_30, tI_48, tI_50, tI_57, tI_60, tI_97, tI_100, tI_122, tI_200, tI_99999, tI_m1, tI_m99999, hb, hb2, bI_0, Bool.true_eq_false, Bool.false_eq_true, not_true_eq_false, not_false_eq_true, if_false, reduceCtorEq, gX_5, q_66, gH_1 (isH_n hf), gH_1 (isH_n ht), s1, hm, t1, hm2, hsame]
          · simp (disch := omega) only [e198_0, e198_1, e198_4, e198_7, e198_8, e198_11, e198_14, e198_16, e198_17, e198_18, e198_21, e198_22, e198_23, e198_26, e198_27, e198_30, e198_31, e198_32, e198_35, e198_38, e198_39, e198_40, e198_43, e198_44, e198_45, e198_46, e198_49, e198_50, e198_51, e198_54, e198_56, ↓reduceIte, gM_0, a_94, inb_n, ix_n, if_true, ne_eq, Nat.reduceEqDiff, not_false_eq_true, vM, clK_s, tl_s, tl_n, clr_i, clr_n, clr_a, nI_add, k_isSheet, hb, hb2, bI_0, Bool.true_eq_false, Bool.false_eq_true, not_true_eq_false, not_false_eq_true, if_false, reduceCtorEq, gM_4, a_97, g, g2, hsame]
end Copy
