/-! POURING, WHOSE SIZES A ROW TELLS -/
def poA (c : Nat → Int32) (A : Tn) (kz : Nat) : Tn := (tN A, fun a b => if a < kz ∧ b = 2 ∧ ¬ c a = (-1000000005) then wi 200 (c a) else tF A a b, tC A, tX A)
def poB (c : Nat → Int32) (A : Tn) (kz : Nat) : Bool := decide (¬ c kz = (-1000000005) ∧ ¬ wi 200 (c kz) = tF A kz 2)
theorem WFp_po {c : Nat → Int32} {A : Tn} (hW : WFp A) (kz : Nat) : WFp (poA c A kz) := by
  obtain ⟨h1, h2, h3, h4⟩ := hW
  have hne : ∀ a j, j ≠ 2 → tF (poA c A kz) a j = tF A a j := fun a j hj => if_neg (fun z => hj z.2.1)
  refine ⟨h1, ?_, ?_, ?_⟩
  · intro a ha
    obtain ⟨b1, b2, b3, b4, b5⟩ := h2 a ha
    rw [hne a 1 (by omega), hne a 0 (by omega), hne a 3 (by omega), hne a 4 (by omega)]
    refine ⟨b1, b2, ?_, b4, b5⟩
    show rg 0 200 (if a < kz ∧ 2 = 2 ∧ ¬ c a = (-1000000005) then wi 200 (c a) else tF A a 2) = true
    by_cases hq : a < kz ∧ 2 = 2 ∧ ¬ c a = (-1000000005)
    · rw [if_pos hq]; exact wi_rg (mz := 200) (by omega)
    · rw [if_neg hq]; exact b3
  · intro i j hi hj
    rw [hne i 1 (by omega), hne j 1 (by omega)]
    exact h3 i j hi hj
  · intro a ha
    rw [hne a 1 (by omega)]
    exact h4 a ha
section Pour
variable {E : aE} {d : Nat} {σ : Nat → Nat → Int32} {A B : Tn} {im : Bool}
theorem poA_s {c : Nat → Int32} {kz : Nat} (hz : ¬ c kz = (-1000000005)) : ∀ a j, (if a = kz ∧ j = 2 then wi 200 (c kz) else tF (poA c A kz) a j) = tF (poA c A (kz + 1)) a j := by
  intro a j
  show (if a = kz ∧ j = 2 then wi 200 (c kz) else if a < kz ∧ j = 2 ∧ ¬ c a = (-1000000005) then wi 200 (c a) else tF A a j) = if a < kz + 1 ∧ j = 2 ∧ ¬ c a = (-1000000005) then wi 200 (c a) else tF A a j
  by_cases h1 : a = kz ∧ j = 2
  · obtain ⟨rfl, rfl⟩ := h1
    rw [if_pos ⟨rfl, rfl⟩, if_pos ⟨by omega, rfl, hz⟩]
  · rw [if_neg h1]
    by_cases h2 : a < kz ∧ j = 2 ∧ ¬ c a = (-1000000005)
    · rw [if_pos h2, if_pos ⟨by omega, h2.2.1, h2.2.2⟩]
    · rw [if_neg h2, if_neg (fun z => h2 ⟨by omega, z.2.1, z.2.2⟩)]
theorem poA_n {c : Nat → Int32} {kz : Nat} (hz : c kz = (-1000000005)) : ∀ a j, tF (poA c A kz) a j = tF (poA c A (kz + 1)) a j := by
  intro a j
  show (if a < kz ∧ j = 2 ∧ ¬ c a = (-1000000005) then wi 200 (c a) else tF A a j) = if a < kz + 1 ∧ j = 2 ∧ ¬ c a = (-1000000005) then wi 200 (c a) else tF A a j
  by_cases h2 : a < kz ∧ j = 2 ∧ ¬ c a = (-1000000005)
  · rw [if_pos h2, if_pos ⟨by omega, h2.2.1, h2.2.2⟩]
  · rw [if_neg h2, if_neg (fun z => h2 ⟨by
      rcases Nat.lt_or_ge a kz with h | h
      · exact h
      · exact absurd (by rw [show a = kz by omega]; exact hz) z.2.2, z.2.1, z.2.2⟩)]
theorem c_pour_l {sz n : Nat} {c : Nat → Int32} {w1 w2 : Option Value} (hs : sz < 4) (hn : n ≤ 24) (h8 : tN A ≤ 8) : ∀ r kz (σ1 : Nat → Nat → Int32) (w6 : Option Value), kz + r = min (tN A) n → CR σ1 36 (poA c A kz) → σ1 (70 + 2 * sz) 2 = nI n → (∀ i, i < 24 → σ1 (70 + 2 * sz + 1) i = c i) →
    ∃ σ2, Rn E (d + 2) 85 25 [some (.ref 0), w1, w2, some (.ref (70 + 2 * sz)), some (.int (nI (cn (poB c A) kz))), some (.int (nI kz)), w6] [] (shp, σ1) = some (some (.int (nI (cn (poB c A) (min (tN A) n)))), (shp, σ2)) ∧ FT 36 σ1 σ2 ∧ CR σ2 36 (poA c A (min (tN A) n)) := by
  have hmin : imin (nI (tN A)) (nI n) = nI (min (tN A) n) := by
    unfold imin
    by_cases hq : n < tN A
    · rw [if_pos (nI_lt hq (by omega)), Nat.min_eq_right (by omega)]
    · rw [if_neg (nI_nlt (by omega) (by omega)), Nat.min_eq_left (by omega)]
  intro r
  induction r with
  | zero =>
    intro kz σ1 w6 hk hC e2 ec
    have e0 : σ1 36 10 = nI (tN A) := hC.1
    have h1 : min (tN A) n ≤ kz := by omega
    have h2 : kz = min (tN A) n := by omega
    refine ⟨σ1, ?_, FT.rf, by rw [← h2]; exact hC⟩
    rw [e85_25]
    simp (disch := omega) only [e85_27, e85_28, e85_31, e85_34, e85_35, e85_38, e85_41, e85_44, e85_45, e85_48, e85_50, e85_51, e85_53, e85_56, e85_57, e85_60, e85_62, e85_63, e85_64, e85_67, e85_70, e85_72, e85_74, e85_76, e85_77, e85_80, e85_83, e85_85, e85_86, e85_89, e85_90, e85_93, e85_94, e85_95, e85_97, e85_98, e85_101, e85_104, e85_106, e85_108, e85_109, e85_112, e85_115, e85_117, ↓reduceIte, inb_n, ix_n, if_true, ne_eq, Nat.reduceEqDiff, not_false_eq_true, clK_s, tl_s, tl_n, clr_i, clr_n, clr_a, nI_add, gX_2, gT_0 t36, gT_1 t36, gT_2 t36, gT_3 t36, gT_4 t36, gT_5 t36, gT_6 t36, gT_7 t36, gT_8 t36, gT_9 t36, gT_10 t36, gT_11 t36, gT_12 t36, gT_13 t36, gT_14 t36, gT_15 t36, gT_16 t36, gT_17 t36, pT_10 t36, pT_11 t36, pT_12 t36, pT_13 t36, pT_14 t36, pT_15 t36, pT_16 t36, pT_17 t36, aT_1 t36, aT_2 t36, aT_3 t36, aT_4 t36, aT_5 t36, aT_6 t36, aT_7 t36, aT_8 t36, aT_9 t36, sT_1 t36, sT_2 t36, sT_3 t36, sT_4 t36, sT_5 t36, sT_6 t36, sT_7 t36, sT_8 t36, sT_9 t36, vT t36, e0, gH_2 (isH_n hs), e2, hmin, nI_leI, h1]
    rw [h2]
  | succ r ih =>
    intro kz σ1 w6 hk hC e2 ec
    have e0 : σ1 36 10 = nI (tN A) := hC.1
    have h1 : ¬ min (tN A) n ≤ kz := by omega
    have hkn : kz < tN A := by omega
    have q := ec kz (by omega)
    have p2 : σ1 (36 + 3) kz = tF A kz 2 := by
      rw [hC.k2 hkn]
      show (if kz < kz ∧ 2 = 2 ∧ ¬ c kz = (-1000000005) then wi 200 (c kz) else tF A kz 2) = tF A kz 2
      rw [if_neg (fun z => by omega)]
    by_cases hz : c kz = (-1000000005)
    · have hpo : poB c A kz = false := decide_eq_false (fun z => z.1 hz)
      have hcn : cn (poB c A) (kz + 1) = cn (poB c A) kz := by rw [cn_s, hpo]; rfl
      obtain ⟨σ2, g1, g2⟩ := ih (kz + 1) σ1 w6 (by omega) (CR.tn hC rfl (fun a _ j _ => poA_n hz a j) (fun _ _ _ => rfl) rfl rfl) e2 ec
      refine ⟨σ2, ?_, g2⟩
      rw [hcn] at g1
      rw [← g1]
      conv => lhs; rw [e85_25]
      rw [hz] at q
      simp (disch := omega) only [e85_27, e85_28, e85_31, e85_34, e85_35, e85_38, e85_41, e85_44, e85_45, e85_48, e85_50, e85_51, e85_53, e85_56, e85_57, e85_60, e85_62, e85_63, e85_64, e85_67, e85_70, e85_72, e85_74, e85_76, e85_77, e85_80, e85_83, e85_85, e85_86, e85_89, e85_90, e85_93, e85_94, e85_95, e85_97, e85_98, e85_101, e85_104, e85_106, e85_108, e85_109, e85_112, ↓reduceIte, inb_n, ix_n, if_true, ne_eq, Nat.reduceEqDiff, not_false_eq_true, clK_s, tl_s, tl_n, clr_i, clr_n, clr_a, nI_add, gX_2, gT_0 t36, gT_1 t36, gT_2 t36, gT_3 t36, gT_4 t36, gT_5 t36, gT_6 t36, gT_7 t36, gT_8 t36, gT_9 t36, gT_10 t36, gT_11 t36, gT_12 t36, gT_13 t36, gT_14 t36, gT_15 t36, gT_16 t36, gT_17 t36, pT_10 t36, pT_11 t36, pT_12 t36, pT_13 t36, pT_14 t36, pT_15 t36, pT_16 t36, pT_17 t36, aT_1 t36, aT_2 t36, aT_3 t36, aT_4 t36, aT_5 t36, aT_6 t36, aT_7 t36, aT_8 t36, aT_9 t36, sT_1 t36, sT_2 t36, sT_3 t36, sT_4 t36, sT_5 t36, sT_6 t36, sT_7 t36, sT_8 t36, sT_9 t36, vT t36, e0, gH_2 (isH_n hs), gH_0 (isH_n hs), aH_1 (isH_n hs), e2, hmin, nI_leI, h1, q]
    · have hC2 : CR (su σ1 (36 + 3) kz (wi 200 (c kz))) 36 (poA c A (kz + 1)) := CR.tn (CR_f (j := 2) (xv := wi 200 (c kz)) hC hkn (by omega) (by omega)) rfl (fun a _ j _ => poA_s hz a j) (fun _ _ _ => rfl) rfl rfl
      obtain ⟨σ2, g1, g2, g3⟩ := ih (kz + 1) (su σ1 (36 + 3) kz (wi 200 (c kz))) (some (.int (wi 200 (c kz)))) (by omega) hC2 (by rw [su_row (by omega)]; exact e2) (fun i hi => by rw [su_row (by omega)]; exact ec i hi)
      refine ⟨σ2, ?_, (FT.rf.pu (by omega) (by omega)).tr g2, g3⟩
      rw [← g1]
      conv => lhs; rw [e85_25]
      by_cases hw : wi 200 (c kz) = tF A kz 2
      · have hpo : poB c A kz = false := decide_eq_false (fun z => z.2 hw)
        have hcn : cn (poB c A) (kz + 1) = cn (poB c A) kz + 0 := by rw [cn_s, hpo]; rfl
        rw [hcn]
        simp (disch := omega) only [e85_27, e85_28, e85_31, e85_34, e85_35, e85_38, e85_41, e85_44, e85_45, e85_48, e85_50, e85_51, e85_53, e85_56, e85_57, e85_60, e85_62, e85_63, e85_64, e85_67, e85_70, e85_72, e85_74, e85_76, e85_77, e85_80, e85_83, e85_85, ↓reduceIte, inb_n, ix_n, if_true, ne_eq, Nat.reduceEqDiff, not_false_eq_true, clK_s, tl_s, tl_n, clr_i, clr_n, clr_a, nI_add, gX_2, gT_0 t36, gT_1 t36, gT_2 t36, gT_3 t36, gT_4 t36, gT_5 t36, gT_6 t36, gT_7 t36, gT_8 t36, gT_9 t36, gT_10 t36, gT_11 t36, gT_12 t36, gT_13 t36, gT_14 t36, gT_15 t36, gT_16 t36, gT_17 t36, pT_10 t36, pT_11 t36, pT_12 t36, pT_13 t36, pT_14 t36, pT_15 t36, pT_16 t36, pT_17 t36, aT_1 t36, aT_2 t36, aT_3 t36, aT_4 t36, aT_5 t36, aT_6 t36, aT_7 t36, aT_8 t36, aT_9 t36, sT_1 t36, sT_2 t36, sT_3 t36, sT_4 t36, sT_5 t36, sT_6 t36, sT_7 t36, sT_8 t36, sT_9 t36, vT t36, e0, gH_2 (isH_n hs), gH_0 (isH_n hs), aH_1 (isH_n hs), e2, hmin, nI_leI, h1, q, hz, c_held, p2]
        rw [e85_86, if_pos hw]
        simp (disch := omega) only [e85_89, e85_90, e85_93, e85_94, e85_95, e85_97, e85_98, e85_101, e85_104, e85_106, e85_108, e85_109, e85_112, ↓reduceIte, inb_n, ix_n, if_true, ne_eq, Nat.reduceEqDiff, not_false_eq_true, clK_s, tl_s, tl_n, clr_i, clr_n, clr_a, nI_add, gX_2, gT_0 t36, gT_1 t36, gT_2 t36, gT_3 t36, gT_4 t36, gT_5 t36, gT_6 t36, gT_7 t36, gT_8 t36, gT_9 t36, gT_10 t36, gT_11 t36, gT_12 t36, gT_13 t36, gT_14 t36, gT_15 t36, gT_16 t36, gT_17 t36, pT_10 t36, pT_11 t36, pT_12 t36, pT_13 t36, pT_14 t36, pT_15 t36, pT_16 t36, pT_17 t36, aT_1 t36, aT_2 t36, aT_3 t36, aT_4 t36, aT_5 t36, aT_6 t36, aT_7 t36, aT_8 t36, aT_9 t36, sT_1 t36, sT_2 t36, sT_3 t36, sT_4 t36, sT_5 t36, sT_6 t36, sT_7 t36, sT_8 t36, sT_9 t36, vT t36]
      · have hpo : poB c A kz = true := decide_eq_true ⟨hz, hw⟩
        have hcn : cn (poB c A) (kz + 1) = cn (poB c A) kz + 1 := by rw [cn_s, hpo]; rfl
        rw [hcn]
        simp (disch := omega) only [e85_27, e85_28, e85_31, e85_34, e85_35, e85_38, e85_41, e85_44, e85_45, e85_48, e85_50, e85_51, e85_53, e85_56, e85_57, e85_60, e85_62, e85_63, e85_64, e85_67, e85_70, e85_72, e85_74, e85_76, e85_77, e85_80, e85_83, e85_85, e85_86, e85_89, e85_90, e85_93, e85_94, e85_95, e85_97, e85_98, e85_101, e85_104, e85_106, e85_108, e85_109, e85_112, ↓reduceIte, inb_n, ix_n, if_true, ne_eq, Nat.reduceEqDiff, not_false_eq_true, clK_s, tl_s, tl_n, clr_i, clr_n, clr_a, nI_add, gX_2, gT_0 t36, gT_1 t36, gT_2 t36, gT_3 t36, gT_4 t36, gT_5 t36, gT_6 t36, gT_7 t36, gT_8 t36, gT_9 t36, gT_10 t36, gT_11 t36, gT_12 t36, gT_13 t36, gT_14 t36, gT_15 t36, gT_16 t36, gT_17 t36, pT_10 t36, pT_11 t36, pT_12 t36, pT_13 t36, pT_14 t36, pT_15 t36, pT_16 t36, pT_17 t36, aT_1 t36, aT_2 t36, aT_3 t36, aT_4 t36, aT_5 t36, aT_6 t36, aT_7 t36, aT_8 t36, aT_9 t36, sT_1 t36, sT_2 t36, sT_3 t36, sT_4 t36, sT_5 t36, sT_6 t36, sT_7 t36, sT_8 t36, sT_9 t36, vT t36, e0, gH_2 (isH_n hs), gH_0 (isH_n hs), aH_1 (isH_n hs), e2, hmin, nI_leI, h1, q, hz, c_held, p2, hw]
theorem k_pour_l {sz n : Nat} {c : Nat → Int32} (hs : sz < 4) (hn : n ≤ 24) (h8 : tN A ≤ 8) : ∀ r kz (σ1 : Nat → Nat → Int32) (w4 w5 : Option Value), kz + r = min (tN A) n → MR (σ1 94) (poA c A kz) → σ1 98 sz = nI n → (∀ i, i < 24 → σ1 99 (24 * sz + i) = c i) →
    ∃ σ2, Rn E (d + 1) 194 27 [some (.ref 93), some (.int (nI sz)), some (.int (nI (cn (poB c A) kz))), some (.int (nI kz)), w4, w5] [] (shp, σ1) = some (some (.int (nI (cn (poB c A) (min (tN A) n)))), (shp, σ2)) ∧ Fr [94] σ1 σ2 ∧ MR (σ2 94) (poA c A (min (tN A) n)) := by
  intro r
  induction r with
  | zero =>
    intro kz σ1 w4 w5 hk hM e2 ec
    have e0 : σ1 94 0 = nI (tN A) := hM.1
    have h2 : kz = min (tN A) n := by omega
    refine ⟨σ1, ?_, Fr.rf, by rw [← h2]; exact hM⟩
    rw [e194_27, ← h2]
    by_cases h3 : n ≤ kz
    · simp (disch := omega) only [e194_28, e194_29, e194_32, e194_33, e194_34, e194_126, e194_127, ↓reduceIte, gM_0, a_94, inb_n, ix_n, if_true, ne_eq, Nat.reduceEqDiff, not_false_eq_true, vM, clK_s, tl_s, tl_n, clr_i, clr_n, clr_a, nI_add, gM_5, a_98, e2, nI_leI, h3]
    · have h4 : tN A ≤ kz := by omega
      simp (disch := omega) only [e194_28, e194_29, e194_32, e194_33, e194_34, e194_37, e194_38, e194_39, e194_42, e194_43, e194_44, e194_126, e194_127, ↓reduceIte, gM_0, a_94, inb_n, ix_n, if_true, ne_eq, Nat.reduceEqDiff, not_false_eq_true, vM, clK_s, tl_s, tl_n, clr_i, clr_n, clr_a, nI_add, gM_5, a_98, e2, nI_leI, h3, e0, h4]
  | succ r ih =>
    intro kz σ1 w4 w5 hk hM e2 ec
    have e0 : σ1 94 0 = nI (tN A) := hM.1
    have h3 : ¬ n ≤ kz := by omega
    have h4 : ¬ tN A ≤ kz := by omega
    have hkn : kz < tN A := by omega
    have q := ec kz (by omega)
    have f2 : σ1 94 (10 + 5 * kz + 2) = tF A kz 2 := by
      rw [hM.2.1 kz hkn 2 (by omega)]
      show (if kz < kz ∧ 2 = 2 ∧ ¬ c kz = (-1000000005) then wi 200 (c kz) else tF A kz 2) = tF A kz 2
      rw [if_neg (fun z => by omega)]
    have hgo : ∀ xv : Int32, MR (su σ1 94 (10 + 5 * kz + 2) xv 94) (poA c A (kz + 1)) → (cn (poB c A) (kz + 1) = cn (poB c A) kz + (if xv = tF A kz 2 then 0 else 1)) → ∃ σ2, Rn E (d + 1) 194 91 [some (.ref 93), some (.int (nI sz)), some (.int (nI (cn (poB c A) kz))), some (.int (nI kz)), some (.int (c kz)), w5] [.int xv] (shp, σ1) = some (some (.int (nI (cn (poB c A) (min (tN A) n)))), (shp, σ2)) ∧ Fr [94] σ1 σ2 ∧ MR (σ2 94) (poA c A (min (tN A) n)) := by
      intro xv hM2 hcn
      obtain ⟨σ2, g1, g2, g3⟩ := ih (kz + 1) (su σ1 94 (10 + 5 * kz + 2) xv) (some (.int (c kz))) (some (.int xv)) (by omega) hM2 (by rw [su_row (by decide)]; exact e2) (fun i hi => by rw [su_row (by decide)]; exact ec i hi)
      refine ⟨σ2, ?_, (Fr.rf.su (by decide)).tr g2, g3⟩
      rw [← g1]
      by_cases hq : xv = tF A kz 2
      · rw [if_pos hq] at hcn
        rw [hcn]
        simp (disch := omega) only [e194_91, e194_93, e194_94, e194_96, e194_97, e194_99, e194_100, e194_101, e194_102, e194_103, e194_104, e194_105, e194_107, ↓reduceIte, gM_0, a_94, inb_n, ix_n, if_true, ne_eq, Nat.reduceEqDiff, not_false_eq_true, vM, clK_s, tl_s, tl_n, clr_i, clr_n, clr_a, nI_add, pk_mul, k_changes, f2]
        rw [e194_110, if_neg (fun z => z hq)]
        simp (disch := omega) only [e194_113, e194_114, e194_117, e194_118, e194_119, e194_120, e194_123, ↓reduceIte, gM_0, a_94, inb_n, ix_n, if_true, ne_eq, Nat.reduceEqDiff, not_false_eq_true, vM, clK_s, tl_s, tl_n, clr_i, clr_n, clr_a, nI_add]
      · rw [if_neg hq] at hcn
        rw [hcn]
        simp (disch := omega) only [e194_91, e194_93, e194_94, e194_96, e194_97, e194_99, e194_100, e194_101, e194_102, e194_103, e194_104, e194_105, e194_107, e194_110, e194_113, e194_114, e194_117, e194_118, e194_119, e194_120, e194_123, ↓reduceIte, gM_0, a_94, inb_n, ix_n, if_true, ne_eq, Nat.reduceEqDiff, not_false_eq_true, vM, clK_s, tl_s, tl_n, clr_i, clr_n, clr_a, nI_add, pk_mul, k_changes, f2, hq]
    conv in Rn E (d + 1) 194 27 _ _ (shp, σ1) => rw [e194_27]
    by_cases hz : c kz = (-1000000005)
    · have hM2 : MR (su σ1 94 (10 + 5 * kz + 2) (tF A kz 2) 94) (poA c A (kz + 1)) := by
        rw [su_rf]
        have := MR_f (kz := kz) (jz := 2) (xv := tF A kz 2) hM h8 hkn (by omega)
        refine MR_ext this rfl (fun a _ j _ => ?_) (fun _ _ _ => rfl) rfl rfl
        rw [← poA_n hz a j]
        show (if a = kz ∧ j = 2 then tF A kz 2 else tF (poA c A kz) a j) = tF (poA c A kz) a j
        by_cases hq : a = kz ∧ j = 2
        · rw [if_pos hq, hq.1, hq.2]
          show _ = if kz < kz ∧ 2 = 2 ∧ ¬ c kz = (-1000000005) then wi 200 (c kz) else tF A kz 2
          rw [if_neg (fun z => by omega)]
        · rw [if_neg hq]
      have hpo : poB c A kz = false := decide_eq_false (fun z => z.1 hz)
      obtain ⟨σ2, g1, g2⟩ := hgo (tF A kz 2) hM2 (by rw [cn_s, hpo, if_pos rfl]; rfl)
      refine ⟨σ2, ?_, g2⟩
      rw [← g1]
      simp (disch := omega) only [e194_28, e194_29, e194_32, e194_33, e194_34, e194_37, e194_38, e194_39, e194_42, e194_43, e194_44, e194_47, e194_48, e194_51, e194_53, e194_54, e194_55, e194_56, e194_57, e194_58, e194_60, e194_62, e194_64, e194_67, e194_68, e194_71, e194_73, e194_74, e194_75, e194_76, e194_77, e194_78, e194_79, e194_80, e194_83, e194_85, e194_88, ↓reduceIte, gM_0, a_94, inb_n, ix_n, if_true, ne_eq, Nat.reduceEqDiff, not_false_eq_true, vM, clK_s, tl_s, tl_n, clr_i, clr_n, clr_a, nI_add, gM_5, gM_6, a_98, a_99, e2, nI_leI, h3, e0, h4, pk_mul, q, hz, f2, not_true_eq_false]
    · have hM2 : MR (su σ1 94 (10 + 5 * kz + 2) (wi 200 (c kz)) 94) (poA c A (kz + 1)) := by
        rw [su_rf]
        have := MR_f (kz := kz) (jz := 2) (xv := wi 200 (c kz)) hM h8 hkn (by omega)
        exact MR_ext this rfl (fun a _ j _ => poA_s hz a j) (fun _ _ _ => rfl) rfl rfl
      obtain ⟨σ2, g1, g2⟩ := hgo (wi 200 (c kz)) hM2 (by
        rw [cn_s]
        by_cases hw : wi 200 (c kz) = tF A kz 2
        · rw [if_neg (by rw [show poB c A kz = false from decide_eq_false (fun z => z.2 hw)]; decide), if_pos hw]
        · rw [if_pos (show poB c A kz = true from decide_eq_true ⟨hz, hw⟩), if_neg hw])
      refine ⟨σ2, ?_, g2⟩
      rw [← g1]
      simp (disch := omega) only [e194_28, e194_29, e194_32, e194_33, e194_34, e194_37, e194_38, e194_39, e194_42, e194_43, e194_44, e194_47, e194_48, e194_51, e194_53, e194_54, e194_55, e194_56, e194_57, e194_58, e194_60, e194_62, e194_64, e194_67, e194_68, e194_71, e194_73, e194_74, e194_75, e194_76, e194_77, e194_78, e194_79, e194_80, e194_83, e194_85, e194_88, ↓reduceIte, gM_0, a_94, inb_n, ix_n, if_true, ne_eq, Nat.reduceEqDiff, not_false_eq_true, vM, clK_s, tl_s, tl_n, clr_i, clr_n, clr_a, nI_add, gM_5, gM_6, a_98, a_99, e2, nI_leI, h3, e0, h4, pk_mul, q, hz, k_within]
theorem op_pour {xv : Int32} (hI : INV σ A B im) : OK2 σ (Rn E (d + 50) 85 0 [some (.ref 0), some (.int xv), none, none, none, none, none] []) (Rn E (d + 50) 194 0 [some (.ref 93), some (.int xv), none, none, none, none] []) := by
  obtain ⟨⟨hC, hM, hW, hX, hc, hR⟩, _, hL⟩ := id hI
  have h8 := hW.1
  have hS := hL.1
  cases hb : rg 0 3 xv with
  | false =>
    have z1 : ¬ (-1000000001 : Int32) = nI 0 := by decide +kernel
    refine ok_read (vv := (-1000000001)) hI ?_ ?_
    · simp (disch := omega) only [e85_0, e85_1, e85_2, e85_5, e85_6, e85_7, e85_10, e85_11, ↓reduceIte, inb_n, ix_n, if_true, ne_eq, Nat.reduceEqDiff, not_false_eq_true, clK_s, tl_s, tl_n, clr_i, clr_n, clr_a, nI_add, vX, c_sfBad hb, z1]
    · simp (disch := omega) only [e194_0, e194_1, e194_4, e194_7, e194_9, e194_10, e194_11, e194_14, e194_15, e194_16, e194_19, e194_22, ↓reduceIte, gM_0, a_94, inb_n, ix_n, if_true, ne_eq, Nat.reduceEqDiff, not_false_eq_true, vM, clK_s, tl_s, tl_n, clr_i, clr_n, clr_a, nI_add, k_isSheet, hb, bI_0, Bool.true_eq_false, Bool.false_eq_true, not_true_eq_false, not_false_eq_true, if_false, reduceCtorEq]
  | true =>
    obtain ⟨kz, hk, rfl⟩ := rg_e (n := 3) rfl hb
    have hk : kz < 4 := by omega
    obtain ⟨s1, s2, s3, ⟨n, hn, s4⟩, s5⟩ := hS kz hk
    obtain ⟨sn1, sn2⟩ := sort_neg s3
    have c2 : σ (70 + 2 * kz) 2 = nI n := by rw [s2, s4]
    by_cases hm : σ 97 kz = (-1)
    · have z1 : ¬ (-1000000011 : Int32) = nI 0 := by decide +kernel
      have hf : sfV (σ (70 + 2 * kz) 1) = (-1000000011) := by unfold sfV; rw [s1, if_pos hm]
      have g2 : ¬ nI 0 ≤ σ 97 kz := fun z => sn2.mp z hm
      refine ok_read (vv := (-1000000011)) hI ?_ ?_
      · simp (disch := omega) only [e85_0, e85_1, e85_2, e85_5, e85_6, e85_7, e85_10, e85_11, ↓reduceIte, inb_n, ix_n, if_true, ne_eq, Nat.reduceEqDiff, not_false_eq_true, clK_s, tl_s, tl_n, clr_i, clr_n, clr_a, nI_add, vX, c_sf hk, hf, z1]
      · simp (disch := omega) only [e194_0, e194_1, e194_4, e194_7, e194_9, e194_10, e194_11, e194_14, e194_15, e194_16, e194_19, e194_22, ↓reduceIte, gM_0, a_94, inb_n, ix_n, if_true, ne_eq, Nat.reduceEqDiff, not_false_eq_true, vM, clK_s, tl_s, tl_n, clr_i, clr_n, clr_a, nI_add, k_isSheet, hb, bI_0, Bool.true_eq_false, Bool.false_eq_true, not_true_eq_false, not_false_eq_true, if_false, reduceCtorEq, gM_4, a_97, g2]
    · have hf : sfV (σ (70 + 2 * kz) 1) = nI 0 := by unfold sfV; rw [s1, if_neg hm]
      have h0 : ∀ a j, tF A a j = tF (poA (fun i => σ 99 (24 * kz + i)) A 0) a j := fun a j => by
        show tF A a j = if a < 0 ∧ j = 2 ∧ ¬ σ 99 (24 * kz + a) = (-1000000005) then wi 200 (σ 99 (24 * kz + a)) else tF A a j
        rw [if_neg (fun z => absurd z.1 (Nat.not_lt_zero a))]
      obtain ⟨σ1, a1, a2, a3⟩ := c_pour_l (E := E) (d := d + 48) (A := A) (c := fun i => σ 99 (24 * kz + i)) (w1 := some (.int (nI kz))) (w2 := some (.int (nI 0))) hk hn h8 (min (tN A) n) 0 σ none (by omega) (CR.tn hC rfl (fun a _ j _ => h0 a j) (fun _ _ _ => rfl) rfl rfl) c2 (fun i hi => (s5 i hi).1)
      have e97 : σ1 97 = σ 97 := a2 97 (by omega) (by omega)
      have g2 : nI 0 ≤ σ1 97 kz := by rw [e97]; exact sn2.mpr hm
      have hM1 : MR (σ1 94) A := by rw [a2 94 (by omega) (by omega)]; exact hM
      obtain ⟨σ2, b1, b2, b3⟩ := k_pour_l (E := E) (d := d + 49) (A := A) (c := fun i => σ 99 (24 * kz + i)) hk hn h8 (min (tN A) n) 0 σ1 none none (by omega) (MR_ext hM1 rfl (fun a _ j _ => h0 a j) (fun _ _ _ => rfl) rfl rfl) (by rw [a2 98 (by omega) (by omega)]; exact s4) (fun i hi => by rw [a2 99 (by omega) (by omega)])
      refine ⟨nI (cn (poB (fun i => σ 99 (24 * kz + i)) A) (min (tN A) n)), σ1, σ2, poA (fun i => σ 99 (24 * kz + i)) A (min (tN A) n), B, im, ?_, ?_, hI.q ((QT.f36 a2).tr (QT.fr (b2.mono (by decide)))) (a3.ext (fun a h1 h2 _ => b2 a (by simp; omega))) b3 (WFp_po hW _) hc rfl⟩
      · simp (disch := omega) only [e85_0, e85_1, e85_2, e85_5, e85_6, e85_7, e85_10, e85_11, e85_12, e85_13, e85_16, e85_17, e85_18, e85_19, e85_20, e85_22, e85_23, ↓reduceIte, inb_n, ix_n, if_true, ne_eq, Nat.reduceEqDiff, not_false_eq_true, clK_s, tl_s, tl_n, clr_i, clr_n, clr_a, nI_add, vX, c_sf hk, hf, gX_5, q_66]
        exact a1
      · simp (disch := omega) only [e194_0, e194_1, e194_4, e194_7, e194_9, e194_10, e194_11, e194_14, e194_15, e194_16, e194_19, e194_22, e194_23, e194_24, e194_25, e194_26, ↓reduceIte, gM_0, a_94, inb_n, ix_n, if_true, ne_eq, Nat.reduceEqDiff, not_false_eq_true, vM, clK_s, tl_s, tl_n, clr_i, clr_n, clr_a, nI_add, k_isSheet, hb, bI_0, Bool.true_eq_false, Bool.false_eq_true, not_true_eq_false, not_false_eq_true, if_false, reduceCtorEq, gM_4, a_97, g2]
        exact b1
end Pour
