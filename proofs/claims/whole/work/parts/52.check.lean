/-! CHECKING ROWS -/
def dueV (B : Tn) (i : Nat) : Int32 := if i % 2 = 0 then tC (spDays (i / 2 + 1) B) 3 else spSz (spDays (i / 2 + 1) B)
def ckF (w : Nat → Int32) (B : Tn) (mz : Nat) : Nat → Nat → Nat
  | 0, iz => if iz < mz then 1 + iz else 0
  | r + 1, iz => if iz < mz ∧ w iz = dueV B iz then ckF w B mz r (iz + 1) else 1 + iz
section Check
variable {E : aE} {d : Nat} {σ : Nat → Nat → Int32} {A B : Tn} {im : Bool}
theorem c_check_l {mz rz : Nat} {w : Nat → Int32} {w1 : Option Value} (hm : mz ≤ 60) (hr : rz ≤ 60) (hW : WFp B) (hX : WFx B) : ∀ r iz (σ1 : Nat → Nat → Int32) (w5 : Option Value), iz + r = rz → CR σ1 56 (spDays ((iz + 1) / 2) B) → TR σ1 (tX B) → (∀ i, i < mz → σ1 68 i = w i) →
    ∃ σ2, Rn E (d + 6) 93 65 [some (.ref 0), w1, some (.int (nI mz)), some (.int (nI rz)), some (.int (nI iz)), w5] [] (shp, σ1) = some (some (.int (nI (ckF w B mz r iz))), (shp, σ2)) ∧ FT 56 σ1 σ2 := by
  intro r
  induction r with
  | zero =>
    intro iz σ1 w5 hi hC hR hw
    have h1 : rz ≤ iz := by omega
    have h2 : iz = rz := by omega
    refine ⟨σ1, ?_, FT.rf⟩
    rw [e93_65]
    unfold ckF
    by_cases h3 : iz < mz
    · have h4 : ¬ mz ≤ rz := by omega
      rw [if_pos h3]
      simp (disch := omega) only [e93_67, e93_68, e93_141, e93_142, e93_143, e93_146, e93_147, e93_148, e93_149, e93_152, e93_153, ↓reduceIte, inb_n, ix_n, if_true, ne_eq, Nat.reduceEqDiff, not_false_eq_true, clK_s, tl_s, tl_n, clr_i, clr_n, clr_a, nI_add, nI_leI, h1, h4]
      rw [h2]
    · have h4 : mz ≤ rz := by omega
      rw [if_neg h3]
      simp (disch := omega) only [e93_67, e93_68, e93_141, e93_142, e93_143, e93_146, e93_147, e93_148, e93_149, e93_152, e93_153, ↓reduceIte, inb_n, ix_n, if_true, ne_eq, Nat.reduceEqDiff, not_false_eq_true, clK_s, tl_s, tl_n, clr_i, clr_n, clr_a, nI_add, nI_leI, h1, h4]
  | succ r ih =>
    intro iz σ1 w5 hi hC hR hw
    have h1 : ¬ rz ≤ iz := by omega
    have hcmp : ∀ (σ2 : Nat → Nat → Int32), FT 56 σ1 σ2 → CR σ2 56 (spDays ((iz + 1 + 1) / 2) B) → ∃ σ3, Rn E (d + 6) 93 110 [some (.ref 0), w1, some (.int (nI mz)), some (.int (nI rz)), some (.int (nI iz)), w5] [.int (dueV B iz)] (shp, σ2) = some (some (.int (nI (ckF w B mz (r + 1) iz))), (shp, σ3)) ∧ FT 56 σ1 σ3 := by
      intro σ2 hf hC2
      unfold ckF
      by_cases h3 : iz < mz
      · have h4 : ¬ mz ≤ iz := by omega
        have e68 : σ2 68 iz = w iz := by rw [hf 68 (by omega) (by omega)]; exact hw iz h3
        by_cases h5 : w iz = dueV B iz
        · obtain ⟨σ3, g1, g2⟩ := ih (iz + 1) σ2 (some (.int (dueV B iz))) (by omega) hC2 (hR.ft hX.1 (by omega) hf) (fun i hi => by rw [hf 68 (by omega) (by omega)]; exact hw i hi)
          refine ⟨σ3, ?_, hf.tr g2⟩
          rw [if_pos ⟨h3, h5⟩, ← g1]
          simp (disch := omega) only [e93_110, e93_112, e93_114, e93_115, e93_118, e93_119, e93_122, e93_124, e93_125, e93_127, e93_130, e93_131, e93_133, e93_134, e93_135, e93_138, ↓reduceIte, inb_n, ix_n, if_true, ne_eq, Nat.reduceEqDiff, not_false_eq_true, clK_s, tl_s, tl_n, clr_i, clr_n, clr_a, nI_add, nI_leI, h4, gX_7, a_68, e68, h5]
        · refine ⟨σ2, ?_, hf⟩
          rw [if_neg (fun z => h5 z.2)]
          simp (disch := omega) only [e93_110, e93_112, e93_114, e93_115, e93_118, e93_119, e93_122, e93_124, e93_125, e93_127, e93_130, e93_131, e93_133, e93_134, ↓reduceIte, inb_n, ix_n, if_true, ne_eq, Nat.reduceEqDiff, not_false_eq_true, clK_s, tl_s, tl_n, clr_i, clr_n, clr_a, nI_add, nI_leI, h4, gX_7, a_68, e68, h5]
      · have h4 : mz ≤ iz := by omega
        refine ⟨σ2, ?_, hf⟩
        rw [if_neg (fun z => h3 z.1)]
        simp (disch := omega) only [e93_110, e93_112, e93_114, e93_115, e93_118, e93_119, e93_122, e93_124, e93_125, e93_127, e93_130, e93_131, e93_133, e93_134, ↓reduceIte, inb_n, ix_n, if_true, ne_eq, Nat.reduceEqDiff, not_false_eq_true, clK_s, tl_s, tl_n, clr_i, clr_n, clr_a, nI_add, nI_leI, h4]
    obtain ⟨o1, o2, o3, o4, o5⟩ := days_k (r := (iz + 1) / 2) hW
    conv in Rn E (d + 6) 93 65 _ _ (shp, σ1) => rw [e93_65]
    by_cases hev : iz % 2 = 0
    · obtain ⟨σ2, a1, a2, a3⟩ := c_live (E := E) (d := d) (nz := 1) (by omega) t56 hC o1 (WFx_of o3 hX) (by rw [o3]; exact hR)
      have hday : spDays 1 (spDays ((iz + 1) / 2) B) = spDays ((iz + 1 + 1) / 2) B := by
        rw [show (iz + 1 + 1) / 2 = (iz + 1) / 2 + 1 by omega, spDays_s (r := (iz + 1) / 2) (A := B)]
        rfl
      rw [hday] at a3
      have q12 : σ2 56 12 = dueV B iz := by
        rw [a3.gl]
        unfold dueV
        rw [if_pos hev, show (iz + 1 + 1) / 2 = iz / 2 + 1 by omega]
      obtain ⟨σ3, g1, g2⟩ := hcmp σ2 a2 a3
      refine ⟨σ3, ?_, g2⟩
      rw [← g1]
      simp (disch := omega) only [e93_67, e93_68, e93_71, e93_73, e93_74, e93_75, e93_78, e93_79, e93_82, e93_83, e93_86, e93_88, e93_89, e93_90, e93_93, e93_94, e93_97, e93_100, e93_103, e93_104, e93_107, ↓reduceIte, inb_n, ix_n, if_true, ne_eq, Nat.reduceEqDiff, not_false_eq_true, clK_s, tl_s, tl_n, clr_i, clr_n, clr_a, nI_add, nI_leI, h1, rm_n, rem_n, hev, not_true_eq_false, gX_4, gT_0 t56, gT_1 t56, gT_2 t56, gT_3 t56, gT_4 t56, gT_5 t56, gT_6 t56, gT_7 t56, gT_8 t56, gT_9 t56, gT_10 t56, gT_11 t56, gT_12 t56, gT_13 t56, gT_14 t56, gT_15 t56, gT_16 t56, gT_17 t56, pT_10 t56, pT_11 t56, pT_12 t56, pT_13 t56, pT_14 t56, pT_15 t56, pT_16 t56, pT_17 t56, aT_1 t56, aT_2 t56, aT_3 t56, aT_4 t56, aT_5 t56, aT_6 t56, aT_7 t56, aT_8 t56, aT_9 t56, sT_1 t56, sT_2 t56, sT_3 t56, sT_4 t56, sT_5 t56, sT_6 t56, sT_7 t56, sT_8 t56, sT_9 t56, vT t56, a1, q12]
    · have hev1 : ¬ nI (iz % 2) = nI 0 := fun z => hev ((nI_eq (by omega) (by omega)).mp z)
      have hC2 : CR σ1 56 (spDays ((iz + 1 + 1) / 2) B) := by rw [show (iz + 1 + 1) / 2 = (iz + 1) / 2 by omega]; exact hC
      have hdue : spSz (spDays ((iz + 1) / 2) B) = dueV B iz := by
        unfold dueV
        rw [if_neg hev, show (iz + 1) / 2 = iz / 2 + 1 by omega]
      obtain ⟨σ3, g1, g2⟩ := hcmp σ1 FT.rf hC2
      refine ⟨σ3, ?_, g2⟩
      rw [← g1]
      simp (disch := omega) only [e93_67, e93_68, e93_71, e93_73, e93_74, e93_75, e93_78, e93_79, e93_82, e93_83, e93_86, e93_88, e93_89, e93_90, e93_93, e93_94, e93_97, e93_100, e93_103, e93_104, e93_107, ↓reduceIte, inb_n, ix_n, if_true, ne_eq, Nat.reduceEqDiff, not_false_eq_true, clK_s, tl_s, tl_n, clr_i, clr_n, clr_a, nI_add, nI_leI, h1, rm_n, rem_n, hev1, gX_4, gT_0 t56, gT_1 t56, gT_2 t56, gT_3 t56, gT_4 t56, gT_5 t56, gT_6 t56, gT_7 t56, gT_8 t56, gT_9 t56, gT_10 t56, gT_11 t56, gT_12 t56, gT_13 t56, gT_14 t56, gT_15 t56, gT_16 t56, gT_17 t56, pT_10 t56, pT_11 t56, pT_12 t56, pT_13 t56, pT_14 t56, pT_15 t56, pT_16 t56, pT_17 t56, aT_1 t56, aT_2 t56, aT_3 t56, aT_4 t56, aT_5 t56, aT_6 t56, aT_7 t56, aT_8 t56, aT_9 t56, sT_1 t56, sT_2 t56, sT_3 t56, sT_4 t56, sT_5 t56, sT_6 t56, sT_7 t56, sT_8 t56, sT_9 t56, vT t56, c_sizes t56 hC o1.1, hdue]
theorem k_check_1 {mz nz dz : Nat} (hn : nz ≤ 30) (hd : dz ≤ 9999) (hW : WFp B) (hX : WFx B) (hdz : tC B 2 = nI dz) : ∀ r iz (σ1 : Nat → Nat → Int32), iz + r = min nz (9999 - dz) → MR (σ1 94) (spDays iz B) → (∀ j, j < 2 * iz → σ1 112 j = dueV B j) →
    ∃ σ2, Rn E (d + 7) 206 64 [some (.ref 93), some (.int (nI nz)), some (.int (nI mz)), some (.int (nI (2 * iz))), some (.int (nI iz))] [] (shp, σ1) = Rn E (d + 7) 206 119 [some (.ref 93), some (.int (nI nz)), some (.int (nI mz)), some (.int (nI (2 * min nz (9999 - dz)))), some (.int (nI (min nz (9999 - dz))))] [] (shp, σ2) ∧ Fr [94, 105, 108, 109, 112] σ1 σ2 ∧ (∀ j, j < 2 * min nz (9999 - dz) → σ2 112 j = dueV B j) := by
  intro r
  induction r with
  | zero =>
    intro iz σ1 hi hM hc
    have h2 : iz = min nz (9999 - dz) := by omega
    obtain ⟨o1, o2, o3, o4, o5⟩ := days_k (r := iz) hW
    refine ⟨σ1, ?_, Fr.rf, by rw [← h2]; exact hc⟩
    rw [e206_64, ← h2]
    by_cases h3 : nz ≤ iz
    · simp (disch := omega) only [e206_66, e206_67, ↓reduceIte, gM_0, a_94, inb_n, ix_n, if_true, ne_eq, Nat.reduceEqDiff, not_false_eq_true, vM, clK_s, tl_s, tl_n, clr_i, clr_n, clr_a, nI_add, nI_leI, h3]
    · have h4 : 9999 ≤ dz + iz := by omega
      have m2 : σ1 94 2 = nI (dz + iz) := by rw [hM.2.2.1 2 (by omega) (by omega), o5, hdz, nI_add]
      simp (disch := omega) only [e206_66, e206_67, e206_70, e206_71, e206_74, e206_75, e206_76, e206_79, ↓reduceIte, gM_0, a_94, inb_n, ix_n, if_true, ne_eq, Nat.reduceEqDiff, not_false_eq_true, vM, clK_s, tl_s, tl_n, clr_i, clr_n, clr_a, nI_add, nI_leI, h3, m2, h4]
  | succ r ih =>
    intro iz σ1 hi hM hc
    obtain ⟨o1, o2, o3, o4, o5⟩ := days_k (r := iz) hW
    have h3 : ¬ nz ≤ iz := by omega
    have h4 : ¬ 9999 ≤ dz + iz := by omega
    have m2 : σ1 94 2 = nI (dz + iz) := by rw [hM.2.2.1 2 (by omega) (by omega), o5, hdz, nI_add]
    obtain ⟨σ2, a1, a2, a3⟩ := k_goesOn (E := E) (d := d) hM o1 (WFx_of o3 hX)
    rw [← spDays_s] at a3
    obtain ⟨p1, p2, p3, p4, p5⟩ := days_k (r := iz + 1) hW
    have m3 : σ2 94 3 = dueV B (2 * iz) := by
      rw [a3.2.2.1 3 (by omega) (by omega)]
      unfold dueV
      rw [if_pos (by omega), show 2 * iz / 2 + 1 = iz + 1 by omega]
    have hM3 : MR (su σ2 112 (2 * iz) (dueV B (2 * iz)) 94) (spDays (iz + 1) B) := by rw [su_row (by decide)]; exact a3
    have hsz : spSz (spDays (iz + 1) B) = dueV B (2 * iz + 1) := by
      unfold dueV
      rw [if_neg (by omega), show (2 * iz + 1) / 2 + 1 = iz + 1 by omega]
    have e112 : σ2 112 = σ1 112 := a2 112 (by decide)
    obtain ⟨σ3, g1, g2, g3⟩ := ih (iz + 1) (su (su σ2 112 (2 * iz) (dueV B (2 * iz))) 112 (2 * iz + 1) (dueV B (2 * iz + 1))) (by omega) (by rw [su_row (by decide)]; exact hM3) (by
      intro j hj
      rw [su_rf]
      by_cases hq : j = 2 * iz + 1
      · rw [hq, pk_us]
      · rw [pk_un hq, su_rf]
        by_cases hq2 : j = 2 * iz
        · rw [hq2, pk_us]
        · rw [pk_un hq2, e112]; exact hc j (by omega))
    refine ⟨σ3, ?_, ((((a2.mono (by decide)).su (by decide)).su (by decide))).tr g2, g3⟩
    rw [← g1]
    conv => lhs; rw [e206_64]
    simp (disch := omega) only [e206_66, e206_67, e206_70, e206_71, e206_74, e206_75, e206_76, e206_79, e206_82, e206_83, e206_86, e206_87, e206_90, e206_91, e206_92, e206_95, e206_96, e206_97, e206_98, e206_99, e206_102, e206_103, e206_104, e206_105, e206_106, e206_109, e206_110, e206_113, e206_116, ↓reduceIte, gM_0, a_94, inb_n, ix_n, if_true, ne_eq, Nat.reduceEqDiff, not_false_eq_true, vM, clK_s, tl_s, tl_n, clr_i, clr_n, clr_a, nI_add, nI_leI, h3, m2, h4, a1, gM_31, s_112, m3, k_sizes hM3 p1.1, hsz, show 2 * iz + 2 = 2 * (iz + 1) from by omega]
theorem k_check_2 {mz rz : Nat} {w : Nat → Int32} {w1 : Option Value} (hm : mz ≤ 60) (hr : rz ≤ 60) (hw : ∀ i, i < mz → σ 111 i = w i) (hd : ∀ i, i < rz → σ 112 i = dueV B i) : ∀ r iz, iz + r = rz → iz ≤ mz →
    Rn E d 206 134 [some (.ref 93), w1, some (.int (nI mz)), some (.int (nI rz)), some (.int (nI iz))] [] (shp, σ) = some (some (.int (nI (ckF w B mz r iz))), (shp, σ)) := by
  intro r
  induction r with
  | zero =>
    intro iz hi hle
    have h2 : iz = rz := by omega
    rw [e206_134]
    unfold ckF
    by_cases h3 : iz < mz
    · have h4 : ¬ mz ≤ iz := by omega
      have h5 : rz ≤ iz := by omega
      have h6 : ¬ nI iz = nI mz := fun z => by have := (nI_eq (by omega) (by omega)).mp z; omega
      rw [if_pos h3]
      simp (disch := omega) only [e206_136, e206_137, e206_140, e206_142, e206_143, e206_146, e206_147, e206_150, e206_152, e206_153, e206_154, e206_157, e206_159, e206_160, e206_163, e206_166, e206_169, e206_171, e206_172, e206_175, e206_177, e206_178, e206_181, e206_182, e206_185, e206_186, e206_188, e206_189, ↓reduceIte, gM_0, a_94, inb_n, ix_n, if_true, ne_eq, Nat.reduceEqDiff, not_false_eq_true, vM, clK_s, tl_s, tl_n, clr_i, clr_n, clr_a, nI_add, nI_leI, h4, h5, h6]
    · have h4 : mz ≤ iz := by omega
      have h6 : iz = mz := by omega
      rw [if_neg h3]
      simp (disch := omega) only [e206_136, e206_137, e206_140, e206_142, e206_143, e206_146, e206_147, e206_150, e206_152, e206_153, e206_154, e206_157, e206_159, e206_160, e206_163, e206_166, e206_169, e206_171, e206_172, e206_175, e206_177, e206_178, e206_181, e206_182, e206_185, e206_186, e206_188, e206_189, ↓reduceIte, gM_0, a_94, inb_n, ix_n, if_true, ne_eq, Nat.reduceEqDiff, not_false_eq_true, vM, clK_s, tl_s, tl_n, clr_i, clr_n, clr_a, nI_add, nI_leI, h4, nI_lt2, h6, h2.symm.trans h6 |>.symm, not_true_eq_false, Nat.le_refl]
  | succ r ih =>
    intro iz hi hle
    have h5 : ¬ rz ≤ iz := by omega
    have h7 : ¬ nI iz = nI rz := fun z => by have := (nI_eq (by omega) (by omega)).mp z; omega
    rw [e206_134]
    unfold ckF
    by_cases h3 : iz < mz
    · have h4 : ¬ mz ≤ iz := by omega
      have h6 : ¬ nI iz = nI mz := fun z => by have := (nI_eq (by omega) (by omega)).mp z; omega
      have e1 := hw iz h3
      have e2 := hd iz (by omega)
      by_cases hq : w iz = dueV B iz
      · rw [if_pos ⟨h3, hq⟩, ← ih (iz + 1) (by omega) (by omega)]
        simp (disch := omega) only [e206_136, e206_137, e206_140, e206_142, e206_143, e206_146, e206_147, e206_150, e206_152, e206_153, e206_154, e206_157, e206_159, e206_160, e206_163, e206_166, ↓reduceIte, gM_0, a_94, inb_n, ix_n, if_true, ne_eq, Nat.reduceEqDiff, not_false_eq_true, vM, clK_s, tl_s, tl_n, clr_i, clr_n, clr_a, nI_add, nI_leI, h4, h5, gM_29, gM_31, a_111, a_112, e1, e2, hq, not_true_eq_false]
      · rw [if_neg (fun z => hq z.2)]
        simp (disch := omega) only [e206_136, e206_137, e206_140, e206_142, e206_143, e206_146, e206_147, e206_150, e206_152, e206_153, e206_154, e206_157, e206_159, e206_160, e206_163, e206_166, e206_169, e206_171, e206_172, e206_175, e206_177, e206_178, e206_181, e206_182, e206_185, e206_186, e206_188, e206_189, ↓reduceIte, gM_0, a_94, inb_n, ix_n, if_true, ne_eq, Nat.reduceEqDiff, not_false_eq_true, vM, clK_s, tl_s, tl_n, clr_i, clr_n, clr_a, nI_add, nI_leI, h4, h5, gM_29, gM_31, a_111, a_112, e1, e2, hq, h6]
    · have h4 : mz ≤ iz := by omega
      rw [if_neg (fun z => h3 z.1)]
      by_cases h6 : nI iz = nI mz
      · simp (disch := omega) only [e206_136, e206_137, ↓reduceIte, gM_0, a_94, inb_n, ix_n, if_true, ne_eq, Nat.reduceEqDiff, not_false_eq_true, vM, clK_s, tl_s, tl_n, clr_i, clr_n, clr_a, nI_add, nI_leI, h4]
        simp only [e206_169, e206_171]
        rw [e206_172, if_neg (fun z => z h6)]
        simp only [e206_175, e206_177, e206_178, e206_181, e206_182, e206_185, e206_186, e206_188, e206_189, h7, not_false_eq_true, if_true, nI_add]
      · simp (disch := omega) only [e206_136, e206_137, e206_140, e206_142, e206_143, e206_146, e206_147, e206_150, e206_152, e206_153, e206_154, e206_157, e206_159, e206_160, e206_163, e206_166, e206_169, e206_171, e206_172, e206_175, e206_177, e206_178, e206_181, e206_182, e206_185, e206_186, e206_188, e206_189, ↓reduceIte, gM_0, a_94, inb_n, ix_n, if_true, ne_eq, Nat.reduceEqDiff, not_false_eq_true, vM, clK_s, tl_s, tl_n, clr_i, clr_n, clr_a, nI_add, nI_leI, h4, h6]
theorem op_check {xv : Int32} (hI : INV σ A B im) : OK2 σ (Rn E (d + 50) 93 0 [some (.ref 0), some (.int xv), none, none, none, none] []) (Rn E (d + 50) 206 0 [some (.ref 93), some (.int xv), none, none, none] []) := by
  obtain ⟨⟨hC, hM, hW, hX, hc, hR⟩, ⟨j1, j2, j3⟩, hL⟩ := id hI
  have h8 := hW.1
  obtain ⟨l1, l2, l3, mz, hm, w1, w2, w3⟩ := hL
  have hrow : ∀ a, a ≠ 0 → a ≠ 93 → su (su σ 0 9 (nI 0)) 93 30 (nI 0) a = σ a := fun a h1 h2 => by rw [su_row h2, su_row h1]
  have r0 : ∀ i, i ≠ 9 → su (su σ 0 9 (nI 0)) 93 30 (nI 0) 0 i = σ 0 i := fun i hi => by rw [su_row (by decide), su_rf, pk_un hi]
  have r93 : ∀ i, i ≠ 30 → su (su σ 0 9 (nI 0)) 93 30 (nI 0) 93 i = σ 93 i := fun i hi => by rw [su_rf, pk_un hi, su_row (by decide)]
  have hI0 : INV (su (su σ 0 9 (nI 0)) 93 30 (nI 0)) A B im := hI.g (fun a ha => hrow a (by omega) (by omega)) (r0 10 (by omega)) (r93 3 (by omega)) ⟨l1.ext (fun a ha => hrow a (by omega) (by omega)), l2.ext (fun a ha => hrow a (by omega) (by omega)), l3.ext (by rw [hrow 34 (by omega) (by omega)]) (r93 15 (by omega)) (hrow 35 (by omega) (by omega)) (hrow 107 (by omega) (by omega)), ⟨0, by omega, by rw [su_row (by decide), su_rf, pk_us], by rw [su_rf, pk_us], fun i hi => by omega⟩⟩
  have d2 : su σ 0 9 (nI 0) 93 30 = nI mz := by rw [su_row (by decide)]; exact w2
  have d10 : su σ 0 9 (nI 0) 0 10 = bI im := by rw [su_rf, pk_un (by omega)]; exact j1
  have d3 : su (su σ 0 9 (nI 0)) 93 30 (nI 0) 93 3 = bI im := by rw [r93 3 (by omega)]; exact j2
  cases hb : rg 1 30 xv with
  | false =>
    refine ⟨(-1000000001), su σ 0 9 (nI 0), su (su σ 0 9 (nI 0)) 93 30 (nI 0), A, B, im, ?_, ?_, hI0⟩
    · simp (disch := omega) only [e93_0, e93_1, e93_4, e93_5, e93_6, e93_7, e93_10, e93_11, e93_12, e93_14, e93_17, e93_20, e93_22, ↓reduceIte, inb_n, ix_n, if_true, ne_eq, Nat.reduceEqDiff, not_false_eq_true, clK_s, tl_s, tl_n, clr_i, clr_n, clr_a, nI_add, gX_9, pX_9, w1, c_isWithin, tI_0, tI_1, tI_2, tI_3, tI_4, tI_5, tI_6, tI_7, tI_8, tI_19, tI_20, tI_23, tI_24, tI_29, tI_30, tI_48, tI_50, tI_57, tI_60, tI_97, tI_100, tI_122, tI_200, tI_99999, tI_m1, tI_m99999, hb, bI_0, Bool.true_eq_false, Bool.false_eq_true, not_true_eq_false, not_false_eq_true, if_false, reduceCtorEq]
    · simp (disch := omega) only [e206_0, e206_1, e206_4, e206_5, e206_6, e206_7, e206_10, e206_11, e206_12, e206_13, e206_16, e206_19, e206_22, e206_24, ↓reduceIte, gM_0, a_94, inb_n, ix_n, if_true, ne_eq, Nat.reduceEqDiff, not_false_eq_true, vM, clK_s, tl_s, tl_n, clr_i, clr_n, clr_a, nI_add, gM_30, pM_30, d2, k_in, rgL_c, tL_0, tL_1, tL_2, tL_3, tL_4, tL_5, tL_6, tL_7, tL_8, tL_19, tL_30, tL_48, tL_50, tL_57, tL_60, tL_97, tL_100, tL_122, tL_200, tL_99999, tL_m1, tL_m99999, hb, bI_0, Bool.true_eq_false, Bool.false_eq_true, not_true_eq_false, not_false_eq_true, if_false, reduceCtorEq]
  | true =>
    cases im with
    | false =>
      refine ⟨(-1000000002), su σ 0 9 (nI 0), su (su σ 0 9 (nI 0)) 93 30 (nI 0), A, B, false, ?_, ?_, hI0⟩
      · simp (disch := omega) only [e93_0, e93_1, e93_4, e93_5, e93_6, e93_7, e93_10, e93_11, e93_12, e93_14, e93_17, e93_20, e93_22, e93_23, e93_24, e93_27, e93_30, e93_32, ↓reduceIte, inb_n, ix_n, if_true, ne_eq, Nat.reduceEqDiff, not_false_eq_true, clK_s, tl_s, tl_n, clr_i, clr_n, clr_a, nI_add, gX_9, gX_10, pX_9, w1, c_isWithin, tI_0, tI_1, tI_2, tI_3, tI_4, tI_5, tI_6, tI_7, tI_8, tI_19, tI_20, tI_23, tI_24, tI_29, tI_30, tI_48, tI_50, tI_57, tI_60, tI_97, tI_100, tI_122, tI_200, tI_99999, tI_m1, tI_m99999, hb, d10, bI_0, Bool.true_eq_false, Bool.false_eq_true, not_true_eq_false, not_false_eq_true, if_false, reduceCtorEq]
      · simp (disch := omega) only [e206_0, e206_1, e206_4, e206_5, e206_6, e206_7, e206_10, e206_11, e206_12, e206_13, e206_16, e206_19, e206_22, e206_24, e206_25, e206_26, e206_29, e206_32, e206_34, ↓reduceIte, gM_0, a_94, inb_n, ix_n, if_true, ne_eq, Nat.reduceEqDiff, not_false_eq_true, vM, clK_s, tl_s, tl_n, clr_i, clr_n, clr_a, nI_add, gM_3, gM_30, pM_30, d2, d3, k_in, rgL_c, tL_0, tL_1, tL_2, tL_3, tL_4, tL_5, tL_6, tL_7, tL_8, tL_19, tL_30, tL_48, tL_50, tL_57, tL_60, tL_97, tL_100, tL_122, tL_200, tL_99999, tL_m1, tL_m99999, hb, bI_0, Bool.true_eq_false, Bool.false_eq_true, not_true_eq_false, not_false_eq_true, if_false, reduceCtorEq]
    | true =>
      obtain ⟨k1, k2, k3, k4, k5⟩ := j3 rfl
      have hXB : WFx B := ⟨Nat.le_trans k5.length_le hX.1, fun tx ht => hX.2 tx (k5.subset ht)⟩
      have hRB : TR σ (tX B) := fun tz tx hg => hR tz tx (by
        obtain ⟨u, hu⟩ := k5
        rw [← hu]
        have hlt : tz < (tX B).length := by
          rcases Nat.lt_or_ge tz (tX B).length with hq | hq
          · exact hq
          · rw [List.getElem?_eq_none hq] at hg; cases hg
        rw [List.getElem?_append_left hlt]
        exact hg)
      have hr := rg_iff.mp hb
      obtain ⟨nz, hn, rfl⟩ := rg_e (n := 30) (xv := xv) rfl (rg_iff.mpr ⟨by omega, hr.2⟩)
      obtain ⟨dz, hd, ed⟩ := k4.1
      have hB8 := k3.1
      have q15 : su σ 0 9 (nI 0) 46 15 = nI dz := by rw [su_row (by decide), k1.dy, ed]
      have hmin : imin (nI nz) (nI (9999 - dz)) = nI (min nz (9999 - dz)) := by
        unfold imin
        by_cases hq : 9999 - dz < nz
        · rw [if_pos (nI_lt hq (by omega)), Nat.min_eq_right (by omega)]
        · rw [if_neg (nI_nlt (by omega) (by omega)), Nat.min_eq_left (by omega)]
      have kC : CR (su σ 0 9 (nI 0)) 46 B := k1.ext (fun a h1 h2 _ => su_row (by omega))
      have kR : TR (su σ 0 9 (nI 0)) (tX B) := hRB.ext hXB.1 (fun a h1 h2 => su_row (by omega))
      obtain ⟨σ1, a1, a2, a3⟩ := c_takes (E := E) (d := d + 48) t56 t46 (by decide) kC hB8
      obtain ⟨σ2, b1, b2⟩ := c_check_l (E := E) (d := d + 44) (mz := mz) (rz := 2 * min nz (9999 - dz)) (w := fun i => σ 68 i) (w1 := some (.int (nI nz))) hm (by omega) k3 hXB (2 * min nz (9999 - dz)) 0 σ1 none (by omega) a3 (kR.ft hXB.1 (by omega) a2) (fun i hi => by rw [a2 68 (by omega) (by omega), su_row (by decide)])
      have ft := a2.tr b2
      have e93 : σ2 93 = σ 93 := by rw [ft 93 (by omega) (by omega), su_row (by decide)]
      have x2 : σ2 93 30 = nI mz := by rw [e93]; exact w2
      have x3 : su σ2 93 30 (nI 0) 93 3 = bI true := by rw [su_rf, pk_un (by omega), e93]; exact j2
      obtain ⟨σ3, c1, c2, c3⟩ := k_aside (E := E) (d := d + 49) (σ := su σ2 93 30 (nI 0)) (a := 94) (b := 96) (Or.inl rfl) (Or.inr (Or.inr rfl)) (by decide)
      obtain ⟨σ4, f1, f2, f3⟩ := k_aside (E := E) (d := d + 49) (σ := σ3) (a := 95) (b := 94) (Or.inr (Or.inl rfl)) (Or.inl rfl) (by decide)
      have e94 : su σ2 93 30 (nI 0) 94 = σ 94 := by rw [su_row (by decide), ft 94 (by omega) (by omega), su_row (by decide)]
      have e95 : σ3 95 = σ 95 := by rw [c2 95 (by decide), su_row (by decide), ft 95 (by omega) (by omega), su_row (by decide)]
      have hM96 : MR (σ3 96) A := MR_cp hM h8 hX (fun i hi => by rw [c3 i hi, e94])
      have hM4 : MR (σ4 94) B := MR_cp k2 hB8 hXB (fun i hi => by rw [f3 i hi, e95])
      obtain ⟨σ5, p1, p2, p3⟩ := k_check_1 (E := E) (d := d + 43) (mz := mz) hn hd k3 hXB ed (min nz (9999 - dz)) 0 σ4 (by omega) hM4 (fun j hj => by omega)
      have e96 : σ5 96 = σ3 96 := by rw [p2 96 (by decide), f2 96 (by decide)]
      obtain ⟨σ6, g1, g2, g3⟩ := k_aside (E := E) (d := d + 49) (σ := σ5) (a := 96) (b := 94) (Or.inr (Or.inr rfl)) (Or.inl rfl) (by decide)
      have hM6 : MR (σ6 94) A := MR_cp hM96 h8 hX (fun i hi => by rw [g3 i hi, e96])
      have frr : ∀ a, a ≠ 94 → a ≠ 96 → a ≠ 105 → a ≠ 108 → a ≠ 109 → a ≠ 112 → σ6 a = su σ2 93 30 (nI 0) a := by
        intro a h1 h2 h3 h4 h5 h6
        rw [g2 a (by simpa using h1), p2 a (by simp; exact ⟨h1, h3, h4, h5, h6⟩), f2 a (by simpa using h1), c2 a (by simpa using h2)]
      have e111 : ∀ i, i < mz → σ6 111 i = σ 68 i := by
        intro i hi
        rw [frr 111 (by omega) (by omega) (by omega) (by omega) (by omega) (by omega), su_row (by decide), ft 111 (by omega) (by omega), su_row (by decide)]
        exact (w3 i hi).symm
      have e112 : ∀ i, i < 2 * min nz (9999 - dz) → σ6 112 i = dueV B i := by
        intro i hi
        rw [g2 112 (by decide)]
        exact p3 i hi
      have qt : QT (su (su σ 0 9 (nI 0)) 93 30 (nI 0)) σ6 := by
        intro a ha
        rw [frr a (by omega) (by omega) (by omega) (by omega) (by omega) (by omega)]
        by_cases h93 : a = 93
        · subst h93
          rw [su_rf, su_rf, e93, su_row (by decide)]
        · rw [su_row h93, su_row h93, ft a (by omega) (by omega)]
      have hC6 : CR σ6 36 A := (hI0.1.1).ext (fun a h1 h2 _ => by
        rw [frr a (by omega) (by omega) (by omega) (by omega) (by omega) (by omega), su_row (by omega), su_row (by omega), ft a (by omega) (by omega)])
      refine ⟨nI (ckF (fun i => σ 68 i) B mz (2 * min nz (9999 - dz)) 0), σ2, σ6, A, B, true, ?_, ?_, hI0.same qt hC6 hM6⟩
      · simp (disch := omega) only [e93_0, e93_1, e93_4, e93_5, e93_6, e93_7, e93_10, e93_11, e93_12, e93_14, e93_17, e93_20, e93_22, e93_23, e93_24, e93_27, e93_30, e93_32, e93_33, e93_34, e93_35, e93_38, e93_39, e93_42, e93_45, e93_46, e93_49, e93_50, e93_51, e93_52, e93_55, e93_56, e93_59, e93_62, e93_63, ↓reduceIte, inb_n, ix_n, if_true, ne_eq, Nat.reduceEqDiff, not_false_eq_true, clK_s, tl_s, tl_n, clr_i, clr_n, clr_a, nI_add, gX_9, gX_10, gX_3, gX_4, pX_9, w1, c_isWithin, tI_0, tI_1, tI_2, tI_3, tI_4, tI_5, tI_6, tI_7, tI_8, tI_19, tI_20, tI_23, tI_24, tI_29, tI_30, tI_48, tI_50, tI_57, tI_60, tI_97, tI_100, tI_122, tI_200, tI_99999, tI_m1, tI_m99999, hb, d10, bI_0, Bool.true_eq_false, Bool.false_eq_true, not_true_eq_false, not_false_eq_true, if_false, reduceCtorEq, gT_15 t46, q15, pk_sub, hmin, pk_mul, vT t56, a1]
        exact b1
      · simp (disch := omega) only [e206_0, e206_1, e206_4, e206_5, e206_6, e206_7, e206_10, e206_11, e206_12, e206_13, e206_16, e206_19, e206_22, e206_24, e206_25, e206_26, e206_29, e206_32, e206_34, e206_35, e206_36, e206_37, e206_40, e206_41, e206_44, e206_47, e206_48, e206_49, e206_52, e206_53, e206_56, e206_59, e206_60, e206_61, e206_62, ↓reduceIte, gM_0, a_94, inb_n, ix_n, if_true, ne_eq, Nat.reduceEqDiff, not_false_eq_true, vM, clK_s, tl_s, tl_n, clr_i, clr_n, clr_a, nI_add, gM_1, gM_2, gM_3, gM_30, pM_30, x2, x3, k_in, rgL_c, tL_0, tL_1, tL_2, tL_3, tL_4, tL_5, tL_6, tL_7, tL_8, tL_19, tL_30, tL_48, tL_50, tL_57, tL_60, tL_97, tL_100, tL_122, tL_200, tL_99999, tL_m1, tL_m99999, hb, bI_0, Bool.true_eq_false, Bool.false_eq_true, not_true_eq_false, not_false_eq_true, if_false, reduceCtorEq, c1, f1]
        refine Eq.trans p1 ?_
        simp (disch := omega) only [e206_119, e206_120, e206_121, e206_124, e206_125, e206_128, e206_131, e206_132, ↓reduceIte, gM_0, a_94, inb_n, ix_n, if_true, ne_eq, Nat.reduceEqDiff, not_false_eq_true, vM, clK_s, tl_s, tl_n, clr_i, clr_n, clr_a, nI_add, gM_2, g1]
        exact k_check_2 hm (by omega) e111 e112 (2 * min nz (9999 - dz)) 0 (by omega) (by omega)
end Check
