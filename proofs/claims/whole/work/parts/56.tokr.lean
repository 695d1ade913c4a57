/-! THE TAPE'S WORDS AND SIGNS: the reference -/
def nuF (tp : Nat → Nat) : Nat → Nat → Nat → Nat
  | 0, _, a => a
  | r + 1, i, a => nuF tp r (i + 1) (10 * a + (tp i - 48))
theorem nuF_s {tp : Nat → Nat} : ∀ r i a, nuF tp (r + 1) i a = 10 * nuF tp r i a + (tp (i + r) - 48) := by
  intro r
  induction r with
  | zero => intro i a; rfl
  | succ r ih =>
    intro i a
    rw [nuF, ih (i + 1), show i + 1 + r = i + (r + 1) by omega]
    rfl
/-- the reference's tape -/
def KP (σ : Nat → Nat → Int32) (n : Nat) (tp : Nat → Nat) : Prop := n ≤ 96 ∧ σ 93 15 = nI n ∧ ∀ i, i < n → tp i < 256 ∧ σ 107 i = nI (tp i)
def tkR (tk : Tk) : Nat := if tk.1 = 2 ∧ 4 < tk.2.2 - tk.2.1 then 4 else tk.1
def KT (σ : Nat → Nat → Int32) (tp : Nat → Nat) (tk : Tk) : Prop := σ 93 16 = nI tk.2.1 ∧ σ 93 17 = nI tk.2.2 ∧ σ 93 18 = nI (tkR tk) ∧ (tk.1 = 1 → σ 93 20 = if tk.2.2 = tk.2.1 + 1 then nI (tp tk.2.1) else nI 0) ∧ (tk.1 = 3 → σ 93 20 = nI (tp tk.2.1)) ∧ (tk.1 = 2 → tk.2.2 - tk.2.1 ≤ 4 → σ 93 19 = nI (nuF tp (tk.2.2 - tk.2.1) tk.2.1 0))
section Tokr
variable {E : aE} {d n : Nat} {tp : Nat → Nat} {σ : Nat → Nat → Int32}
theorem KP.ext {σ1 : Nat → Nat → Int32} (h : KP σ n tp) (h1 : σ1 93 15 = σ 93 15) (h2 : σ1 107 = σ 107) : KP σ1 n tp := by
  unfold KP
  rw [h1, h2]
  exact h
theorem k_isLetter {pz : Nat} (hT : KP σ n tp) (hp : pz ≤ 96) : Rn E (d + 1) 170 0 [some (.ref 93), some (.int (nI pz))] [] (shp, σ) = some (some (.int (bI (decide (sA tp n pz = 1)))), (shp, σ)) := by
  obtain ⟨h96, e1, e2⟩ := hT
  by_cases h1 : pz < n
  · have h1' : ¬ n ≤ pz := by omega
    obtain ⟨hb, eb⟩ := e2 pz h1
    have hr : rg 97 122 (nI (tp pz)) = decide (sA tp n pz = 1) := by
      unfold rg sA kc
      rw [if_pos h1, nI_toInt (by omega)]
      apply decide_eq_decide.mpr
      by_cases a1 : 97 ≤ tp pz ∧ tp pz ≤ 122
      · rw [if_pos a1]; omega
      · rw [if_neg a1]
        by_cases a2 : 48 ≤ tp pz ∧ tp pz ≤ 57
        · rw [if_pos a2]; omega
        · rw [if_neg a2]; omega
    rw [← hr]
    simp (disch := omega) only [e170_0, e170_1, e170_2, e170_5, e170_8, e170_9, e170_12, e170_13, e170_14, e170_15, e170_18, e170_21, e170_24, e170_27, e170_28, e170_31, e170_32, ↓reduceIte, gM_0, a_94, inb_n, ix_n, if_true, ne_eq, Nat.reduceEqDiff, not_false_eq_true, vM, clK_s, tl_s, tl_n, clr_i, clr_n, clr_a, nI_add, gM_14, gM_15, e1, nI_leI, h1', a_107, eb, k_in, rgL_c, tL_0, tL_1, tL_2, tL_3, tL_4, tL_5, tL_6, tL_7, tL_8, tL_19, tL_30, tL_48, tL_50, tL_57, tL_60, tL_97, tL_100, tL_122, tL_200, tL_99999, tL_m1, tL_m99999]
    cases rg 97 122 (nI (tp pz)) <;> simp [bI, n10, rz_1, rz_0]
  · have h1' : n ≤ pz := by omega
    have hs : decide (sA tp n pz = 1) = false := by unfold sA; rw [if_neg h1]; decide
    rw [hs]
    simp (disch := omega) only [e170_0, e170_1, e170_2, e170_5, e170_8, e170_9, e170_12, e170_13, e170_14, e170_15, e170_18, e170_21, e170_24, e170_27, e170_28, e170_31, e170_32, ↓reduceIte, gM_0, a_94, inb_n, ix_n, if_true, ne_eq, Nat.reduceEqDiff, not_false_eq_true, vM, clK_s, tl_s, tl_n, clr_i, clr_n, clr_a, nI_add, gM_15, e1, nI_leI, h1', rz_0]
theorem k_isDigit {pz : Nat} (hT : KP σ n tp) (hp : pz ≤ 96) : Rn E (d + 1) 171 0 [some (.ref 93), some (.int (nI pz))] [] (shp, σ) = some (some (.int (bI (decide (sA tp n pz = 2)))), (shp, σ)) := by
  obtain ⟨h96, e1, e2⟩ := hT
  by_cases h1 : pz < n
  · have h1' : ¬ n ≤ pz := by omega
    obtain ⟨hb, eb⟩ := e2 pz h1
    have hr : rg 48 57 (nI (tp pz)) = decide (sA tp n pz = 2) := by
      unfold rg sA kc
      rw [if_pos h1, nI_toInt (by omega)]
      apply decide_eq_decide.mpr
      by_cases a1 : 97 ≤ tp pz ∧ tp pz ≤ 122
      · rw [if_pos a1]; omega
      · rw [if_neg a1]
        by_cases a2 : 48 ≤ tp pz ∧ tp pz ≤ 57
        · rw [if_pos a2]; omega
        · rw [if_neg a2]; omega
    rw [← hr]
    simp (disch := omega) only [e171_0, e171_1, e171_2, e171_5, e171_8, e171_9, e171_12, e171_13, e171_14, e171_15, e171_18, e171_21, e171_24, e171_27, e171_28, e171_31, e171_32, ↓reduceIte, gM_0, a_94, inb_n, ix_n, if_true, ne_eq, Nat.reduceEqDiff, not_false_eq_true, vM, clK_s, tl_s, tl_n, clr_i, clr_n, clr_a, nI_add, gM_14, gM_15, e1, nI_leI, h1', a_107, eb, k_in, rgL_c, tL_0, tL_1, tL_2, tL_3, tL_4, tL_5, tL_6, tL_7, tL_8, tL_19, tL_30, tL_48, tL_50, tL_57, tL_60, tL_97, tL_100, tL_122, tL_200, tL_99999, tL_m1, tL_m99999]
    cases rg 48 57 (nI (tp pz)) <;> simp [bI, n10, rz_1, rz_0]
  · have h1' : n ≤ pz := by omega
    have hs : decide (sA tp n pz = 2) = false := by unfold sA; rw [if_neg h1]; decide
    rw [hs]
    simp (disch := omega) only [e171_0, e171_1, e171_2, e171_5, e171_8, e171_9, e171_12, e171_13, e171_14, e171_15, e171_18, e171_21, e171_24, e171_27, e171_28, e171_31, e171_32, ↓reduceIte, gM_0, a_94, inb_n, ix_n, if_true, ne_eq, Nat.reduceEqDiff, not_false_eq_true, vM, clK_s, tl_s, tl_n, clr_i, clr_n, clr_a, nI_add, gM_15, e1, nI_leI, h1', rz_0]
theorem k_next_1 {w1 w2 : Option Value} (hT : KP σ n tp) : ∀ r pz (σ1 : Nat → Nat → Int32), pz + r = n → Fr [93] σ σ1 → (∀ i, i ≠ 17 → σ1 93 i = σ 93 i) → σ1 93 17 = nI pz →
    ∃ σ2, Rn E d 172 34 [some (.ref 93), w1, w2] [] (shp, σ1) = Rn E d 172 72 [some (.ref 93), w1, w2] [] (shp, σ2) ∧ Fr [93] σ σ2 ∧ (∀ i, i ≠ 17 → σ2 93 i = σ 93 i) ∧ σ2 93 17 = nI (skF tp r pz) := by
  obtain ⟨h96, e1, e2⟩ := hT
  intro r
  induction r with
  | zero =>
    intro pz σ1 hp hf ho h3
    have h1 : n ≤ pz := by omega
    have e1' : σ1 93 15 = nI n := by rw [ho 15 (by omega)]; exact e1
    refine ⟨σ1, ?_, hf, ho, h3⟩
    rw [e172_34]
    simp (disch := omega) only [e172_35, e172_38, e172_39, e172_42, ↓reduceIte, gM_0, a_94, inb_n, ix_n, if_true, ne_eq, Nat.reduceEqDiff, not_false_eq_true, vM, clK_s, tl_s, tl_n, clr_i, clr_n, clr_a, nI_add, gM_15, gM_17, h3, e1', nI_leI, h1]
  | succ r ih =>
    intro pz σ1 hp hf ho h3
    have h1 : ¬ n ≤ pz := by omega
    have e1' : σ1 93 15 = nI n := by rw [ho 15 (by omega)]; exact e1
    obtain ⟨hb, eb⟩ := e2 pz (by omega)
    have eb' : σ1 107 pz = nI (tp pz) := by rw [hf 107 (by decide)]; exact eb
    have q : nI (tp pz) = nI 32 ↔ tp pz = 32 := nI_eq (by omega) (by omega)
    unfold skF
    by_cases h32 : tp pz = 32
    · obtain ⟨σ2, g1, g2⟩ := ih (pz + 1) (su σ1 93 17 (nI (pz + 1))) (by omega) (hf.su (by decide)) (fun i hi => by rw [su_rf, pk_un hi]; exact ho i hi) (by rw [su_rf, pk_us])
      rw [if_pos h32]
      refine ⟨σ2, ?_, g2⟩
      rw [← g1]
      conv => lhs; rw [e172_34]
      simp (disch := omega) only [e172_35, e172_38, e172_39, e172_42, e172_45, e172_46, e172_49, e172_50, e172_53, e172_54, e172_56, e172_59, e172_60, e172_61, e172_64, e172_65, e172_66, e172_69, ↓reduceIte, gM_0, a_94, inb_n, ix_n, if_true, ne_eq, Nat.reduceEqDiff, not_false_eq_true, vM, clK_s, tl_s, tl_n, clr_i, clr_n, clr_a, nI_add, gM_14, gM_15, gM_17, pM_17, h3, e1', nI_leI, h1, a_107, eb', q.mpr h32, not_true_eq_false]
    · rw [if_neg h32]
      have hq : ¬ nI (tp pz) = nI 32 := fun z => h32 (q.mp z)
      refine ⟨σ1, ?_, hf, ho, h3⟩
      rw [e172_34]
      simp (disch := omega) only [e172_35, e172_38, e172_39, e172_42, e172_45, e172_46, e172_49, e172_50, e172_53, e172_54, e172_56, ↓reduceIte, gM_0, a_94, inb_n, ix_n, if_true, ne_eq, Nat.reduceEqDiff, not_false_eq_true, vM, clK_s, tl_s, tl_n, clr_i, clr_n, clr_a, nI_add, gM_14, gM_15, gM_17, h3, e1', nI_leI, h1, a_107, eb', hq]
theorem k_next_2 {w1 w2 : Option Value} (hT : KP σ n tp) : ∀ r pz (σ1 : Nat → Nat → Int32), pz + r = n → Fr [93] σ σ1 → (∀ i, i ≠ 17 → σ1 93 i = σ 93 i) → σ1 93 17 = nI pz →
    ∃ σ2, Rn E (d + 2) 172 128 [some (.ref 93), w1, w2] [] (shp, σ1) = Rn E (d + 2) 172 152 [some (.ref 93), w1, w2] [] (shp, σ2) ∧ Fr [93] σ σ2 ∧ (∀ i, i ≠ 17 → σ2 93 i = σ 93 i) ∧ σ2 93 17 = nI (rnF tp 1 r pz) := by
  have h96 := hT.1
  intro r
  induction r with
  | zero =>
    intro pz σ1 hp hf ho h3
    have hT1 : KP σ1 n tp := hT.ext (ho 15 (by omega)) (hf 107 (by decide))
    have hs : decide (sA tp n pz = 1) = false := by unfold sA; rw [if_neg (by omega)]; decide
    refine ⟨σ1, ?_, hf, ho, h3⟩
    rw [e172_128]
    simp (disch := omega) only [e172_129, e172_130, e172_133, e172_136, ↓reduceIte, gM_0, a_94, inb_n, ix_n, if_true, ne_eq, Nat.reduceEqDiff, not_false_eq_true, vM, clK_s, tl_s, tl_n, clr_i, clr_n, clr_a, nI_add, gM_17, h3, k_isLetter hT1 (show pz ≤ 96 by omega), hs, bI_0, Bool.true_eq_false, Bool.false_eq_true, not_true_eq_false, not_false_eq_true, if_false, reduceCtorEq]
  | succ r ih =>
    intro pz σ1 hp hf ho h3
    have hT1 : KP σ1 n tp := hT.ext (ho 15 (by omega)) (hf 107 (by decide))
    have hsk : sA tp n pz = kc (tp pz) := by unfold sA; rw [if_pos (by omega)]
    unfold rnF
    by_cases hq : kc (tp pz) = 1
    · have hs : decide (sA tp n pz = 1) = true := by rw [hsk]; exact decide_eq_true hq
      obtain ⟨σ2, g1, g2⟩ := ih (pz + 1) (su σ1 93 17 (nI (pz + 1))) (by omega) (hf.su (by decide)) (fun i hi => by rw [su_rf, pk_un hi]; exact ho i hi) (by rw [su_rf, pk_us])
      rw [if_pos hq]
      refine ⟨σ2, ?_, g2⟩
      rw [← g1]
      conv => lhs; rw [e172_128]
      simp (disch := omega) only [e172_129, e172_130, e172_133, e172_136, e172_139, e172_140, e172_141, e172_144, e172_145, e172_146, e172_149, ↓reduceIte, gM_0, a_94, inb_n, ix_n, if_true, ne_eq, Nat.reduceEqDiff, not_false_eq_true, vM, clK_s, tl_s, tl_n, clr_i, clr_n, clr_a, nI_add, gM_17, pM_17, h3, k_isLetter hT1 (show pz ≤ 96 by omega), hs, bI_0, Bool.true_eq_false, Bool.false_eq_true, not_true_eq_false, not_false_eq_true, if_false, reduceCtorEq]
    · have hs : decide (sA tp n pz = 1) = false := by rw [hsk]; exact decide_eq_false hq
      rw [if_neg hq]
      refine ⟨σ1, ?_, hf, ho, h3⟩
      rw [e172_128]
      simp (disch := omega) only [e172_129, e172_130, e172_133, e172_136, ↓reduceIte, gM_0, a_94, inb_n, ix_n, if_true, ne_eq, Nat.reduceEqDiff, not_false_eq_true, vM, clK_s, tl_s, tl_n, clr_i, clr_n, clr_a, nI_add, gM_17, h3, k_isLetter hT1 (show pz ≤ 96 by omega), hs, bI_0, Bool.true_eq_false, Bool.false_eq_true, not_true_eq_false, not_false_eq_true, if_false, reduceCtorEq]
theorem k_next_3 {w1 w2 : Option Value} {fz : Nat} (hT : KP σ n tp) (hf16 : σ 93 16 = nI fz) : ∀ r pz (σ1 : Nat → Nat → Int32), pz + r = n → fz ≤ pz → Fr [93] σ σ1 → (∀ i, i ≠ 17 → i ≠ 19 → σ1 93 i = σ 93 i) → σ1 93 17 = nI pz → (pz - fz ≤ 4 → σ1 93 19 = nI (nuF tp (pz - fz) fz 0)) →
    ∃ σ2, Rn E (d + 2) 172 214 [some (.ref 93), w1, w2] [] (shp, σ1) = Rn E (d + 2) 172 282 [some (.ref 93), w1, w2] [] (shp, σ2) ∧ Fr [93] σ σ2 ∧ (∀ i, i ≠ 17 → i ≠ 19 → σ2 93 i = σ 93 i) ∧ σ2 93 17 = nI (rnF tp 2 r pz) ∧ (rnF tp 2 r pz - fz ≤ 4 → σ2 93 19 = nI (nuF tp (rnF tp 2 r pz - fz) fz 0)) := by
  have h96 := hT.1
  intro r
  induction r with
  | zero =>
    intro pz σ1 hp hfp hf ho h3 hnu
    have hT1 : KP σ1 n tp := hT.ext (ho 15 (by omega) (by omega)) (hf 107 (by decide))
    have hs : decide (sA tp n pz = 2) = false := by unfold sA; rw [if_neg (by omega)]; decide
    refine ⟨σ1, ?_, hf, ho, h3, hnu⟩
    rw [e172_214]
    simp (disch := omega) only [e172_215, e172_216, e172_219, e172_222, ↓reduceIte, gM_0, a_94, inb_n, ix_n, if_true, ne_eq, Nat.reduceEqDiff, not_false_eq_true, vM, clK_s, tl_s, tl_n, clr_i, clr_n, clr_a, nI_add, gM_17, h3, k_isDigit hT1 (show pz ≤ 96 by omega), hs, bI_0, Bool.true_eq_false, Bool.false_eq_true, not_true_eq_false, not_false_eq_true, if_false, reduceCtorEq]
  | succ r ih =>
    intro pz σ1 hp hfp hf ho h3 hnu
    have hT1 : KP σ1 n tp := hT.ext (ho 15 (by omega) (by omega)) (hf 107 (by decide))
    have hsk : sA tp n pz = kc (tp pz) := by unfold sA; rw [if_pos (by omega)]
    have e16 : σ1 93 16 = nI fz := by rw [ho 16 (by omega) (by omega)]; exact hf16
    obtain ⟨hb, eb⟩ := hT1.2.2 pz (by omega)
    unfold rnF
    by_cases hq : kc (tp pz) = 2
    · have hs : decide (sA tp n pz = 2) = true := by rw [hsk]; exact decide_eq_true hq
      have hdig : 48 ≤ tp pz ∧ tp pz ≤ 57 := by
        unfold kc at hq
        by_cases a1 : 97 ≤ tp pz ∧ tp pz ≤ 122
        · rw [if_pos a1] at hq; omega
        · rw [if_neg a1] at hq
          by_cases a2 : 48 ≤ tp pz ∧ tp pz ≤ 57
          · exact a2
          · rw [if_neg a2] at hq; omega
      rw [if_pos hq]
      by_cases h4 : pz - fz < 4
      · have h4' : ¬ 4 ≤ pz - fz := by omega
        have e19 := hnu (by omega)
        have hnum : nI (10 * nuF tp (pz - fz) fz 0 + tp pz) - nI 48 = nI (nuF tp (pz + 1 - fz) fz 0) := by
          rw [pk_sub (by omega), show pz + 1 - fz = (pz - fz) + 1 by omega, nuF_s, show fz + (pz - fz) = pz by omega]
          congr 1
          omega
        have e17 : su σ1 93 19 (nI (nuF tp (pz + 1 - fz) fz 0)) 93 17 = nI pz := by rw [su_rf, pk_un (by omega)]; exact h3
        obtain ⟨σ2, g1, g2⟩ := ih (pz + 1) (su (su σ1 93 19 (nI (nuF tp (pz + 1 - fz) fz 0))) 93 17 (nI (pz + 1))) (by omega) (by omega) ((hf.su (by decide)).su (by decide)) (fun i hi hj => by rw [su_rf, pk_un hi, su_rf, pk_un hj]; exact ho i hi hj) (by rw [su_rf, pk_us]) (fun _ => by rw [su_rf, pk_un (by omega), su_rf, pk_us])
        refine ⟨σ2, ?_, g2⟩
        rw [← g1]
        conv => lhs; rw [e172_214]
        simp (disch := omega) only [e172_215, e172_216, e172_219, e172_222, e172_225, e172_226, e172_227, e172_230, e172_231, e172_234, e172_235, e172_236, e172_239, e172_241, e172_242, e172_245, e172_246, e172_247, e172_250, e172_251, e172_254, e172_255, e172_256, e172_258, e172_259, e172_262, e172_263, e172_266, e172_269, e172_270, e172_271, e172_274, e172_275, e172_276, e172_279, ↓reduceIte, gM_0, a_94, inb_n, ix_n, if_true, ne_eq, Nat.reduceEqDiff, not_false_eq_true, vM, clK_s, tl_s, tl_n, clr_i, clr_n, clr_a, nI_add, gM_14, gM_16, gM_17, gM_19, pM_17, pM_19, h3, e16, e19, k_isDigit hT1 (show pz ≤ 96 by omega), hs, bI_0, Bool.true_eq_false, Bool.false_eq_true, not_true_eq_false, not_false_eq_true, if_false, reduceCtorEq, pk_sub, nI_leI, h4', a_107, eb, pk_mul, hnum, e17]
      · have h4' : 4 ≤ pz - fz := by omega
        have e17 : su σ1 93 19 (σ1 93 19) 93 17 = nI pz := by rw [su_rf, pk_un (by omega)]; exact h3
        obtain ⟨σ2, g1, g2⟩ := ih (pz + 1) (su (su σ1 93 19 (σ1 93 19)) 93 17 (nI (pz + 1))) (by omega) (by omega) ((hf.su (by decide)).su (by decide)) (fun i hi hj => by rw [su_rf, pk_un hi, su_rf, pk_un hj]; exact ho i hi hj) (by rw [su_rf, pk_us]) (fun z => by omega)
        refine ⟨σ2, ?_, g2⟩
        rw [← g1]
        conv => lhs; rw [e172_214]
        simp (disch := omega) only [e172_215, e172_216, e172_219, e172_222, e172_225, e172_226, e172_227, e172_230, e172_231, e172_234, e172_235, e172_236, e172_239, e172_241, e172_242, e172_245, e172_246, e172_247, e172_250, e172_251, e172_254, e172_255, e172_256, e172_258, e172_259, e172_262, e172_263, e172_266, e172_269, e172_270, e172_271, e172_274, e172_275, e172_276, e172_279, ↓reduceIte, gM_0, a_94, inb_n, ix_n, if_true, ne_eq, Nat.reduceEqDiff, not_false_eq_true, vM, clK_s, tl_s, tl_n, clr_i, clr_n, clr_a, nI_add, gM_14, gM_16, gM_17, gM_19, pM_17, pM_19, h3, e16, k_isDigit hT1 (show pz ≤ 96 by omega), hs, bI_0, Bool.true_eq_false, Bool.false_eq_true, not_true_eq_false, not_false_eq_true, if_false, reduceCtorEq, pk_sub, nI_leI, h4', e17]
    · have hs : decide (sA tp n pz = 2) = false := by rw [hsk]; exact decide_eq_false hq
      rw [if_neg hq]
      refine ⟨σ1, ?_, hf, ho, h3, hnu⟩
      rw [e172_214]
      simp (disch := omega) only [e172_215, e172_216, e172_219, e172_222, ↓reduceIte, gM_0, a_94, inb_n, ix_n, if_true, ne_eq, Nat.reduceEqDiff, not_false_eq_true, vM, clK_s, tl_s, tl_n, clr_i, clr_n, clr_a, nI_add, gM_17, h3, k_isDigit hT1 (show pz ≤ 96 by omega), hs, bI_0, Bool.true_eq_false, Bool.false_eq_true, not_true_eq_false, not_false_eq_true, if_false, reduceCtorEq]
/-- the token at hand is no number that is too long; at the beginning it is a sign -/
theorem k_next {tk : Tk} (hT : KP σ n tp) (h17 : σ 93 17 = nI tk.2.2) (h18 : σ 93 18 = nI tk.1) (hb : tk.2.2 ≤ n) (hk4 : tk.1 ≤ 4) (h0 : tk.2.2 = 0 → tk.1 ≠ 1 ∧ tk.1 ≠ 2) : ∃ σ2, Rn E (d + 2) 172 0 [some (.ref 93), none, none] [] (shp, σ) = some (none, (shp, σ2)) ∧ Fr [93] σ σ2 ∧ (∀ i, (i < 16 ∨ 20 < i) → σ2 93 i = σ 93 i) ∧ KT σ2 tp (tok tp n tk) := by
  have h96 := hT.1
  obtain ⟨f1, f2⟩ := tkF_b (tp := tp) hb
  have hw0 : Rn E (d + 2) 172 0 [some (.ref 93), none, none] [] (shp, σ) = Rn E (d + 2) 172 34 [some (.ref 93), some (.int (bI (decide (tk.1 = 1 ∨ tk.1 = 2)))), some (.int (nI tk.2.2))] [] (shp, σ) := by
    by_cases hz : tk.2.2 ≤ 0
    · have hz' : nI tk.2.2 ≤ nI 0 := nI_le hz (by omega)
      obtain ⟨a1, a2⟩ := h0 (by omega)
      rw [decide_eq_false (by omega), bI_f]
      simp (disch := omega) only [e172_0, e172_1, e172_4, e172_7, e172_8, e172_11, e172_12, e172_15, e172_16, e172_19, e172_20, e172_23, e172_24, e172_27, e172_28, e172_29, e172_30, e172_33, ↓reduceIte, gM_0, a_94, inb_n, ix_n, if_true, ne_eq, Nat.reduceEqDiff, not_false_eq_true, vM, clK_s, tl_s, tl_n, clr_i, clr_n, clr_a, nI_add, gM_17, h17, hz']
    · have hz' : ¬ nI tk.2.2 ≤ nI 0 := nI_ge (by omega) (by omega)
      by_cases a1 : tk.1 = 1
      · rw [decide_eq_true (Or.inl a1), bI_t]
        rw [a1] at h18
        simp (disch := omega) only [e172_0, e172_1, e172_4, e172_7, e172_8, e172_11, e172_12, e172_15, e172_16, e172_19, e172_20, e172_23, e172_24, e172_27, e172_28, e172_29, e172_30, e172_33, ↓reduceIte, gM_0, a_94, inb_n, ix_n, if_true, ne_eq, Nat.reduceEqDiff, not_false_eq_true, vM, clK_s, tl_s, tl_n, clr_i, clr_n, clr_a, nI_add, gM_17, gM_18, h17, hz', h18]
      · have a1' : ¬ nI tk.1 = nI 1 := fun z => a1 ((nI_eq (by omega) (by omega)).mp z)
        by_cases a2 : tk.1 = 2
        · rw [decide_eq_true (Or.inr a2), bI_t]
          rw [a2] at h18 a1'
          simp (disch := omega) only [e172_0, e172_1, e172_4, e172_7, e172_8, e172_11, e172_12, e172_15, e172_16, e172_19, e172_20, e172_23, e172_24, e172_27, e172_28, e172_29, e172_30, e172_33, ↓reduceIte, gM_0, a_94, inb_n, ix_n, if_true, ne_eq, Nat.reduceEqDiff, not_false_eq_true, vM, clK_s, tl_s, tl_n, clr_i, clr_n, clr_a, nI_add, gM_17, gM_18, h17, hz', h18, a1', not_true_eq_false]
        · have a2' : ¬ nI tk.1 = nI 2 := fun z => a2 ((nI_eq (by omega) (by omega)).mp z)
          rw [decide_eq_false (by omega), bI_f]
          simp (disch := omega) only [e172_0, e172_1, e172_4, e172_7, e172_8, e172_11, e172_12, e172_15, e172_16, e172_19, e172_20, e172_23, e172_24, e172_27, e172_28, e172_29, e172_30, e172_33, ↓reduceIte, gM_0, a_94, inb_n, ix_n, if_true, ne_eq, Nat.reduceEqDiff, not_false_eq_true, vM, clK_s, tl_s, tl_n, clr_i, clr_n, clr_a, nI_add, gM_17, gM_18, h17, hz', h18, a1', a2']
  rw [hw0]
  obtain ⟨σ1, s1, s2, s3, s4⟩ := k_next_1 (E := E) (d := d + 2) (w1 := some (.int (bI (decide (tk.1 = 1 ∨ tk.1 = 2))))) (w2 := some (.int (nI tk.2.2))) hT (n - tk.2.2) tk.2.2 σ (by omega) Fr.rf (fun _ _ => rfl) h17
  have s4 : σ1 93 17 = nI (tkF tp n tk.2.2) := s4
  rw [s1]
  have hT1 : KP σ1 n tp := hT.ext (s3 15 (by omega)) (s2 107 (by decide))
  -- tight
  have htight : Rn E (d + 2) 172 72 [some (.ref 93), some (.int (bI (decide (tk.1 = 1 ∨ tk.1 = 2)))), some (.int (nI tk.2.2))] [] (shp, σ1) = Rn E (d + 2) 172 98 [some (.ref 93), some (.int (bI (decide ((tk.1 = 1 ∨ tk.1 = 2) ∧ tkF tp n tk.2.2 = tk.2.2)))), some (.int (nI tk.2.2))] [] (shp, su σ1 93 16 (nI (tkF tp n tk.2.2))) := by
    by_cases c1 : tk.1 = 1 ∨ tk.1 = 2
    · by_cases c3 : tkF tp n tk.2.2 = tk.2.2
      · have c3' : nI tk.2.2 = nI (tkF tp n tk.2.2) := by rw [c3]
        rw [decide_eq_true c1, decide_eq_true ⟨c1, c3⟩]
        simp (disch := omega) only [e172_72, e172_73, e172_76, e172_77, e172_78, ↓reduceIte, gM_0, a_94, inb_n, ix_n, if_true, ne_eq, Nat.reduceEqDiff, not_false_eq_true, vM, clK_s, tl_s, tl_n, clr_i, clr_n, clr_a, nI_add, bI_0, Bool.true_eq_false, Bool.false_eq_true, not_true_eq_false, not_false_eq_true, if_false, reduceCtorEq, gM_17, s4]
        rw [e172_81, if_neg (fun z => z c3')]
        simp (disch := omega) only [e172_84, e172_85, e172_88, e172_89, e172_90, e172_91, e172_92, e172_95, ↓reduceIte, gM_0, a_94, inb_n, ix_n, if_true, ne_eq, Nat.reduceEqDiff, not_false_eq_true, vM, clK_s, tl_s, tl_n, clr_i, clr_n, clr_a, nI_add, gM_17, pM_16, s4, bI_t]
      · have c3' : ¬ nI tk.2.2 = nI (tkF tp n tk.2.2) := fun z => c3 ((nI_eq (by omega) (by omega)).mp z).symm
        rw [decide_eq_true c1, decide_eq_false (fun z => c3 z.2)]
        simp (disch := omega) only [e172_72, e172_73, e172_76, e172_77, e172_78, e172_81, e172_84, e172_85, e172_88, e172_89, e172_90, e172_91, e172_92, e172_95, ↓reduceIte, gM_0, a_94, inb_n, ix_n, if_true, ne_eq, Nat.reduceEqDiff, not_false_eq_true, vM, clK_s, tl_s, tl_n, clr_i, clr_n, clr_a, nI_add, bI_0, Bool.true_eq_false, Bool.false_eq_true, not_true_eq_false, not_false_eq_true, if_false, reduceCtorEq, gM_17, pM_16, s4, c3', bI_f]
    · rw [decide_eq_false c1, decide_eq_false (fun z => c1 z.1)]
      simp (disch := omega) only [e172_72, e172_73, e172_76, e172_77, e172_78, e172_81, e172_84, e172_85, e172_88, e172_89, e172_90, e172_91, e172_92, e172_95, ↓reduceIte, gM_0, a_94, inb_n, ix_n, if_true, ne_eq, Nat.reduceEqDiff, not_false_eq_true, vM, clK_s, tl_s, tl_n, clr_i, clr_n, clr_a, nI_add, bI_0, Bool.true_eq_false, Bool.false_eq_true, not_true_eq_false, not_false_eq_true, if_false, reduceCtorEq, gM_17, pM_16, s4, bI_f]
  rw [htight]
  have y16 : su σ1 93 16 (nI (tkF tp n tk.2.2)) 93 16 = nI (tkF tp n tk.2.2) := by rw [su_rf, pk_us]
  have y17 : su σ1 93 16 (nI (tkF tp n tk.2.2)) 93 17 = nI (tkF tp n tk.2.2) := by rw [su_rf, pk_un (by omega)]; exact s4
  have hT2 : KP (su σ1 93 16 (nI (tkF tp n tk.2.2))) n tp := hT1.ext (by rw [su_rf, pk_un (by omega)]) (su_row (by decide))
  have y15 := hT2.2.1
  have fr2 : Fr [93] σ (su σ1 93 16 (nI (tkF tp n tk.2.2))) := s2.su (by decide)
  have o2 : ∀ i, (i < 16 ∨ 20 < i) → su σ1 93 16 (nI (tkF tp n tk.2.2)) 93 i = σ 93 i := fun i hi => by rw [su_rf, pk_un (by omega)]; exact s3 i (by omega)
  by_cases hlt : tkF tp n tk.2.2 < n
  · have hne : ¬ nI (tkF tp n tk.2.2) = nI n := fun z => by have := (nI_eq (by omega) (by omega)).mp z; omega
    have hsk : sA tp n (tkF tp n tk.2.2) = kc (tp (tkF tp n tk.2.2)) := by unfold sA; rw [if_pos hlt]
    obtain ⟨hbt, ebt⟩ := hT2.2.2 (tkF tp n tk.2.2) hlt
    rcases kc_r (tp (tkF tp n tk.2.2)) with hk | hk | hk
    · -- a word
      have hl : decide (sA tp n (tkF tp n tk.2.2) = 1) = true := by rw [hsk]; exact decide_eq_true hk
      obtain ⟨σ3, g1, g2, g3, g4⟩ := k_next_2 (E := E) (d := d) (w1 := some (.int (bI (decide ((tk.1 = 1 ∨ tk.1 = 2) ∧ tkF tp n tk.2.2 = tk.2.2))))) (w2 := some (.int (nI tk.2.2))) hT2 (n - tkF tp n tk.2.2) (tkF tp n tk.2.2) _ (by omega) Fr.rf (fun _ _ => rfl) y17
      have hrn : rnF tp 1 (n - tkF tp n tk.2.2) (tkF tp n tk.2.2) = tkB tp n (tkF tp n tk.2.2) := by
        rw [show n - tkF tp n tk.2.2 = (n - (tkF tp n tk.2.2 + 1)) + 1 by omega, rnF, if_pos hk]
        unfold tkB
        rw [if_pos hlt, hk, if_neg (by omega)]
      rw [hrn] at g4
      have bb := tkB_b (tp := tp) f2
      have z16 : σ3 93 16 = nI (tkF tp n tk.2.2) := by rw [g3 16 (by omega)]; exact y16
      have hT3 : KP σ3 n tp := hT2.ext (g3 15 (by omega)) (g2 107 (by decide))
      have ebt3 := (hT3.2.2 (tkF tp n tk.2.2) hlt).2
      have hpre : Rn E (d + 2) 172 98 [some (.ref 93), some (.int (bI (decide ((tk.1 = 1 ∨ tk.1 = 2) ∧ tkF tp n tk.2.2 = tk.2.2)))), some (.int (nI tk.2.2))] [] (shp, su σ1 93 16 (nI (tkF tp n tk.2.2))) = Rn E (d + 2) 172 152 [some (.ref 93), some (.int (bI (decide ((tk.1 = 1 ∨ tk.1 = 2) ∧ tkF tp n tk.2.2 = tk.2.2)))), some (.int (nI tk.2.2))] [] (shp, σ3) := by
        rw [← g1]
        simp (disch := omega) only [e172_98, e172_99, e172_102, e172_103, e172_106, e172_109, e172_110, e172_111, e172_114, e172_117, e172_118, e172_119, e172_122, e172_125, ↓reduceIte, gM_0, a_94, inb_n, ix_n, if_true, ne_eq, Nat.reduceEqDiff, not_false_eq_true, vM, clK_s, tl_s, tl_n, clr_i, clr_n, clr_a, nI_add, gM_15, gM_16, y16, y15, hne, k_isLetter hT2 (show tkF tp n tk.2.2 ≤ 96 by omega), hl, bI_0, Bool.true_eq_false, Bool.false_eq_true, not_true_eq_false, not_false_eq_true, if_false, reduceCtorEq]
      rw [hpre]
      have hfin : ∀ kz : Nat, (kz = (tok tp n tk).1) → Rn E (d + 2) 172 162 [some (.ref 93), some (.int (bI (decide ((tk.1 = 1 ∨ tk.1 = 2) ∧ tkF tp n tk.2.2 = tk.2.2)))), some (.int (nI tk.2.2))] [.int (nI kz), .ref 93] (shp, σ3) = some (none, (shp, su (su σ3 93 18 (nI kz)) 93 20 (if tkB tp n (tkF tp n tk.2.2) = tkF tp n tk.2.2 + 1 then nI (tp (tkF tp n tk.2.2)) else nI 0))) := by
        intro kz _
        have u17 : su σ3 93 18 (nI kz) 93 17 = nI (tkB tp n (tkF tp n tk.2.2)) := by rw [su_rf, pk_un (by omega)]; exact g4
        have u16 : su σ3 93 18 (nI kz) 93 16 = nI (tkF tp n tk.2.2) := by rw [su_rf, pk_un (by omega)]; exact z16
        have u107 : su σ3 93 18 (nI kz) 107 (tkF tp n tk.2.2) = nI (tp (tkF tp n tk.2.2)) := by rw [su_row (by decide)]; exact ebt3
        by_cases h1 : tkB tp n (tkF tp n tk.2.2) = tkF tp n tk.2.2 + 1
        · have h1' : nI (tkB tp n (tkF tp n tk.2.2) - tkF tp n tk.2.2) = nI 1 := by rw [h1]; congr 1; omega
          rw [if_pos h1]
          simp (disch := omega) only [e172_162, e172_165, e172_166, e172_167, e172_170, e172_171, e172_174, e172_175, ↓reduceIte, gM_0, a_94, inb_n, ix_n, if_true, ne_eq, Nat.reduceEqDiff, not_false_eq_true, vM, clK_s, tl_s, tl_n, clr_i, clr_n, clr_a, nI_add, gM_16, gM_17, pM_18, u17, u16, pk_sub]
          rw [e172_176, if_neg (fun z => z h1')]
          simp (disch := omega) only [e172_179, e172_180, e172_183, e172_184, e172_187, e172_188, e172_191, e172_192, e172_195, e172_339, ↓reduceIte, gM_0, a_94, inb_n, ix_n, if_true, ne_eq, Nat.reduceEqDiff, not_false_eq_true, vM, clK_s, tl_s, tl_n, clr_i, clr_n, clr_a, nI_add, gM_14, gM_16, pM_20, u16, a_107, u107]
        · have h1' : ¬ nI (tkB tp n (tkF tp n tk.2.2) - tkF tp n tk.2.2) = nI 1 := fun z => by have := (nI_eq (by omega) (by omega)).mp z; omega
          rw [if_neg h1]
          simp (disch := omega) only [e172_162, e172_165, e172_166, e172_167, e172_170, e172_171, e172_174, e172_175, e172_176, e172_179, e172_180, e172_183, e172_184, e172_187, e172_188, e172_191, e172_192, e172_195, e172_339, ↓reduceIte, gM_0, a_94, inb_n, ix_n, if_true, ne_eq, Nat.reduceEqDiff, not_false_eq_true, vM, clK_s, tl_s, tl_n, clr_i, clr_n, clr_a, nI_add, gM_16, gM_17, pM_18, pM_20, u17, u16, pk_sub, h1']
      have hKT : ∀ kz : Nat, kz = (tok tp n tk).1 → kz ≠ 2 → kz ≠ 3 → KT (su (su σ3 93 18 (nI kz)) 93 20 (if tkB tp n (tkF tp n tk.2.2) = tkF tp n tk.2.2 + 1 then nI (tp (tkF tp n tk.2.2)) else nI 0)) tp (tok tp n tk) := by
        intro kz hkz h2 h3
        refine ⟨?_, ?_, ?_, fun _ => ?_, fun z => absurd (hkz.trans z) h3, fun z => absurd (hkz.trans z) h2⟩
        · rw [su_rf, pk_un (by omega), su_rf, pk_un (by omega)]; exact z16
        · rw [su_rf, pk_un (by omega), su_rf, pk_un (by omega)]; exact g4
        · rw [su_rf, pk_un (by omega), su_rf, pk_us]
          unfold tkR
          rw [if_neg (fun z => h2 (hkz.trans z.1)), hkz]
        · rw [su_rf, pk_us]; rfl
      have hfr3 : ∀ kz xv, Fr [93] σ (su (su σ3 93 18 (nI kz)) 93 20 xv) := fun kz xv => ((fr2.tr g2).su (by decide)).su (by decide)
      have ho3 : ∀ (kz : Nat) (xv : Int32) i, (i < 16 ∨ 20 < i) → su (su σ3 93 18 (nI kz)) 93 20 xv 93 i = σ 93 i := fun kz xv i hi => by rw [su_rf, pk_un (by omega), su_rf, pk_un (by omega), g3 i (by omega)]; exact o2 i hi
      by_cases ct : (tk.1 = 1 ∨ tk.1 = 2) ∧ tkF tp n tk.2.2 = tk.2.2
      · have hkz : 4 = (tok tp n tk).1 := by unfold tok; rw [if_pos ⟨ct.1, by rw [hsk, hk]; exact Or.inl rfl, ct.2⟩]
        refine ⟨_, ?_, hfr3 4 _, ho3 4 _, hKT 4 hkz (by omega) (by omega)⟩
        rw [← hfin 4 hkz, decide_eq_true ct]
        simp (disch := omega) only [e172_152, e172_153, e172_154, e172_157, e172_158, e172_161, ↓reduceIte, gM_0, a_94, inb_n, ix_n, if_true, ne_eq, Nat.reduceEqDiff, not_false_eq_true, vM, clK_s, tl_s, tl_n, clr_i, clr_n, clr_a, nI_add, bI_0, Bool.true_eq_false, Bool.false_eq_true, not_true_eq_false, not_false_eq_true, if_false, reduceCtorEq]
      · have hkz : 1 = (tok tp n tk).1 := by unfold tok; rw [if_neg (fun z => ct ⟨z.1, z.2.2⟩), hsk, hk]
        refine ⟨_, ?_, hfr3 1 _, ho3 1 _, hKT 1 hkz (by omega) (by omega)⟩
        rw [← hfin 1 hkz, decide_eq_false ct]
        simp (disch := omega) only [e172_152, e172_153, e172_154, e172_157, e172_158, e172_161, ↓reduceIte, gM_0, a_94, inb_n, ix_n, if_true, ne_eq, Nat.reduceEqDiff, not_false_eq_true, vM, clK_s, tl_s, tl_n, clr_i, clr_n, clr_a, nI_add, bI_0, Bool.true_eq_false, Bool.false_eq_true, not_true_eq_false, not_false_eq_true, if_false, reduceCtorEq]
    · -- a number
      have hl : decide (sA tp n (tkF tp n tk.2.2) = 1) = false := by rw [hsk]; exact decide_eq_false (by omega)
      have hl2 : decide (sA tp n (tkF tp n tk.2.2) = 2) = true := by rw [hsk]; exact decide_eq_true hk
      have q16 : su (su σ1 93 16 (nI (tkF tp n tk.2.2))) 93 19 (nI 0) 93 16 = nI (tkF tp n tk.2.2) := by rw [su_rf, pk_un (by omega)]; exact y16
      have q17 : su (su σ1 93 16 (nI (tkF tp n tk.2.2))) 93 19 (nI 0) 93 17 = nI (tkF tp n tk.2.2) := by rw [su_rf, pk_un (by omega)]; exact y17
      have hT3 : KP (su (su σ1 93 16 (nI (tkF tp n tk.2.2))) 93 19 (nI 0)) n tp := hT2.ext (by rw [su_rf, pk_un (by omega)]) (su_row (by decide))
      obtain ⟨σ3, g1, g2, g3, g4, g5⟩ := k_next_3 (E := E) (d := d) (w1 := some (.int (bI (decide ((tk.1 = 1 ∨ tk.1 = 2) ∧ tkF tp n tk.2.2 = tk.2.2))))) (w2 := some (.int (nI tk.2.2))) (fz := tkF tp n tk.2.2) hT3 q16 (n - tkF tp n tk.2.2) (tkF tp n tk.2.2) _ (by omega) (Nat.le_refl _) Fr.rf (fun _ _ _ => rfl) q17 (fun _ => by rw [su_rf, pk_us, Nat.sub_self]; rfl)
      have hrn : rnF tp 2 (n - tkF tp n tk.2.2) (tkF tp n tk.2.2) = tkB tp n (tkF tp n tk.2.2) := by
        rw [show n - tkF tp n tk.2.2 = (n - (tkF tp n tk.2.2 + 1)) + 1 by omega, rnF, if_pos hk]
        unfold tkB
        rw [if_pos hlt, hk, if_neg (by omega)]
      rw [hrn] at g4 g5
      have bb := tkB_b (tp := tp) f2
      have z16 : σ3 93 16 = nI (tkF tp n tk.2.2) := by rw [g3 16 (by omega) (by omega)]; exact q16
      have hpre : Rn E (d + 2) 172 98 [some (.ref 93), some (.int (bI (decide ((tk.1 = 1 ∨ tk.1 = 2) ∧ tkF tp n tk.2.2 = tk.2.2)))), some (.int (nI tk.2.2))] [] (shp, su σ1 93 16 (nI (tkF tp n tk.2.2))) = Rn E (d + 2) 172 282 [some (.ref 93), some (.int (bI (decide ((tk.1 = 1 ∨ tk.1 = 2) ∧ tkF tp n tk.2.2 = tk.2.2)))), some (.int (nI tk.2.2))] [] (shp, σ3) := by
        rw [← g1]
        simp (disch := omega) only [e172_98, e172_99, e172_102, e172_103, e172_106, e172_109, e172_110, e172_111, e172_114, e172_117, e172_118, e172_119, e172_122, e172_125, e172_198, e172_199, e172_200, e172_203, e172_206, e172_209, e172_210, e172_211, ↓reduceIte, gM_0, a_94, inb_n, ix_n, if_true, ne_eq, Nat.reduceEqDiff, not_false_eq_true, vM, clK_s, tl_s, tl_n, clr_i, clr_n, clr_a, nI_add, gM_15, gM_16, pM_19, y16, y15, hne, k_isLetter hT2 (show tkF tp n tk.2.2 ≤ 96 by omega), k_isDigit hT2 (show tkF tp n tk.2.2 ≤ 96 by omega), hl, hl2, bI_0, Bool.true_eq_false, Bool.false_eq_true, not_true_eq_false, not_false_eq_true, if_false, reduceCtorEq]
      rw [hpre]
      have hKT : ∀ kz : Nat, kz = tkR (tok tp n tk) → KT (su σ3 93 18 (nI kz)) tp (tok tp n tk) := by
        intro kz hkz
        have hk2 : (tok tp n tk).1 = 4 ∨ (tok tp n tk).1 = 2 := by
          unfold tok
          by_cases ct : (tk.1 = 1 ∨ tk.1 = 2) ∧ (sA tp n (tkF tp n tk.2.2) = 1 ∨ sA tp n (tkF tp n tk.2.2) = 2) ∧ tkF tp n tk.2.2 = tk.2.2
          · rw [if_pos ct]; exact Or.inl rfl
          · rw [if_neg ct, hsk, hk]; exact Or.inr rfl
        refine ⟨?_, ?_, ?_, fun z => by omega, fun z => by omega, fun _ h4 => ?_⟩
        · rw [su_rf, pk_un (by omega)]; exact z16
        · rw [su_rf, pk_un (by omega)]; exact g4
        · rw [su_rf, pk_us, hkz]
        · rw [su_rf, pk_un (by omega)]; exact g5 h4
      have hfr3 : ∀ kz, Fr [93] σ (su σ3 93 18 (nI kz)) := fun kz => (((fr2.su (by decide)).tr g2)).su (by decide)
      have ho3 : ∀ (kz : Nat) i, (i < 16 ∨ 20 < i) → su σ3 93 18 (nI kz) 93 i = σ 93 i := fun kz i hi => by rw [su_rf, pk_un (by omega), g3 i (by omega) (by omega), su_rf, pk_un (by omega)]; exact o2 i hi
      by_cases ct : (tk.1 = 1 ∨ tk.1 = 2) ∧ tkF tp n tk.2.2 = tk.2.2
      · have hkz : 4 = tkR (tok tp n tk) := by
          have : (tok tp n tk).1 = 4 := by unfold tok; rw [if_pos ⟨ct.1, by rw [hsk, hk]; exact Or.inr rfl, ct.2⟩]
          unfold tkR
          rw [if_neg (fun z => by omega), this]
        refine ⟨_, ?_, hfr3 4, ho3 4, hKT 4 hkz⟩
        rw [decide_eq_true ct]
        simp (disch := omega) only [e172_282, e172_283, e172_284, e172_287, e172_288, e172_291, e172_292, e172_295, e172_296, e172_297, e172_300, e172_301, e172_304, e172_305, e172_308, e172_339, ↓reduceIte, gM_0, a_94, inb_n, ix_n, if_true, ne_eq, Nat.reduceEqDiff, not_false_eq_true, vM, clK_s, tl_s, tl_n, clr_i, clr_n, clr_a, nI_add, bI_0, Bool.true_eq_false, Bool.false_eq_true, not_true_eq_false, not_false_eq_true, if_false, reduceCtorEq, pM_18]
      · have hk1 : (tok tp n tk).1 = 2 := by unfold tok; rw [if_neg (fun z => ct ⟨z.1, z.2.2⟩), hsk, hk]
        by_cases h4 : tkB tp n (tkF tp n tk.2.2) - tkF tp n tk.2.2 ≤ 4
        · have hkz : 2 = tkR (tok tp n tk) := by
            unfold tkR
            rw [if_neg (fun z => by have : 4 < tkB tp n (tkF tp n tk.2.2) - tkF tp n tk.2.2 := z.2; omega), hk1]
          refine ⟨_, ?_, hfr3 2, ho3 2, hKT 2 hkz⟩
          rw [decide_eq_false ct]
          simp (disch := omega) only [e172_282, e172_283, e172_284, e172_287, e172_288, e172_291, e172_292, e172_295, e172_296, e172_297, e172_300, e172_301, e172_304, e172_305, e172_308, e172_339, ↓reduceIte, gM_0, a_94, inb_n, ix_n, if_true, ne_eq, Nat.reduceEqDiff, not_false_eq_true, vM, clK_s, tl_s, tl_n, clr_i, clr_n, clr_a, nI_add, bI_0, Bool.true_eq_false, Bool.false_eq_true, not_true_eq_false, not_false_eq_true, if_false, reduceCtorEq, gM_16, gM_17, pM_18, g4, z16, pk_sub, nI_leI, h4]
        · have hkz : 4 = tkR (tok tp n tk) := by
            unfold tkR
            rw [if_pos ⟨hk1, show 4 < tkB tp n (tkF tp n tk.2.2) - tkF tp n tk.2.2 by omega⟩]
          refine ⟨_, ?_, hfr3 4, ho3 4, hKT 4 hkz⟩
          rw [decide_eq_false ct]
          simp (disch := omega) only [e172_282, e172_283, e172_284, e172_287, e172_288, e172_291, e172_292, e172_295, e172_296, e172_297, e172_300, e172_301, e172_304, e172_305, e172_308, e172_339, ↓reduceIte, gM_0, a_94, inb_n, ix_n, if_true, ne_eq, Nat.reduceEqDiff, not_false_eq_true, vM, clK_s, tl_s, tl_n, clr_i, clr_n, clr_a, nI_add, bI_0, Bool.true_eq_false, Bool.false_eq_true, not_true_eq_false, not_false_eq_true, if_false, reduceCtorEq, gM_16, gM_17, pM_18, g4, z16, pk_sub, nI_leI, h4]
    · -- a sign
      have hl : decide (sA tp n (tkF tp n tk.2.2) = 1) = false := by rw [hsk]; exact decide_eq_false (by omega)
      have hl2 : decide (sA tp n (tkF tp n tk.2.2) = 2) = false := by rw [hsk]; exact decide_eq_false (by omega)
      have hk1 : (tok tp n tk).1 = 3 := by unfold tok; rw [if_neg (fun z => by rw [hsk] at z; omega), hsk, hk]
      have hB : tkB tp n (tkF tp n tk.2.2) = tkF tp n tk.2.2 + 1 := by unfold tkB; rw [if_pos hlt, if_pos hk]
      have u16 : su (su σ1 93 16 (nI (tkF tp n tk.2.2))) 93 18 (nI 3) 93 16 = nI (tkF tp n tk.2.2) := by rw [su_rf, pk_un (by omega)]; exact y16
      have u107 : su (su σ1 93 16 (nI (tkF tp n tk.2.2))) 93 18 (nI 3) 107 (tkF tp n tk.2.2) = nI (tp (tkF tp n tk.2.2)) := by rw [su_row (by decide)]; exact ebt
      have u17 : su (su (su σ1 93 16 (nI (tkF tp n tk.2.2))) 93 18 (nI 3)) 93 20 (nI (tp (tkF tp n tk.2.2))) 93 17 = nI (tkF tp n tk.2.2) := by rw [su_rf, pk_un (by omega), su_rf, pk_un (by omega)]; exact y17
      refine ⟨su (su (su (su σ1 93 16 (nI (tkF tp n tk.2.2))) 93 18 (nI 3)) 93 20 (nI (tp (tkF tp n tk.2.2)))) 93 17 (nI (tkF tp n tk.2.2 + 1)), ?_, ((fr2.su (by decide)).su (by decide)).su (by decide), fun i hi => by rw [su_rf, pk_un (by omega), su_rf, pk_un (by omega), su_rf, pk_un (by omega)]; exact o2 i hi, ?_, ?_, ?_, fun z => by omega, fun _ => ?_, fun z => by omega⟩
      · simp (disch := omega) only [e172_98, e172_99, e172_102, e172_103, e172_106, e172_109, e172_110, e172_111, e172_114, e172_117, e172_118, e172_119, e172_122, e172_125, e172_198, e172_199, e172_200, e172_203, e172_206, e172_311, e172_312, e172_313, e172_316, e172_317, e172_318, e172_321, e172_322, e172_325, e172_326, e172_329, e172_330, e172_331, e172_334, e172_335, e172_336, e172_339, ↓reduceIte, gM_0, a_94, inb_n, ix_n, if_true, ne_eq, Nat.reduceEqDiff, not_false_eq_true, vM, clK_s, tl_s, tl_n, clr_i, clr_n, clr_a, nI_add, gM_14, gM_15, gM_16, gM_17, pM_17, pM_18, pM_20, y16, y15, hne, k_isLetter hT2 (show tkF tp n tk.2.2 ≤ 96 by omega), k_isDigit hT2 (show tkF tp n tk.2.2 ≤ 96 by omega), hl, hl2, bI_0, Bool.true_eq_false, Bool.false_eq_true, not_true_eq_false, not_false_eq_true, if_false, reduceCtorEq, u16, a_107, u107, u17]
      · rw [su_rf, pk_un (by omega), su_rf, pk_un (by omega)]; exact u16
      · rw [su_rf, pk_us]
        show _ = nI (tkB tp n (tkF tp n tk.2.2))
        rw [hB]
      · rw [su_rf, pk_un (by omega), su_rf, pk_un (by omega), su_rf, pk_us]
        unfold tkR
        rw [if_neg (fun z => by omega), hk1]
      · rw [su_rf, pk_un (by omega), su_rf, pk_us]
        rfl
  · have hfn : tkF tp n tk.2.2 = n := by omega
    have hnn : nI (tkF tp n tk.2.2) = nI n := by rw [hfn]
    have hs0 : sA tp n (tkF tp n tk.2.2) = 0 := by unfold sA; rw [if_neg hlt]
    have hk0 : (tok tp n tk).1 = 0 := by unfold tok; rw [if_neg (fun z => by omega), hs0]
    refine ⟨su (su σ1 93 16 (nI (tkF tp n tk.2.2))) 93 18 (nI 0), ?_, fr2.su (by decide), fun i hi => by rw [su_rf, pk_un (by omega)]; exact o2 i hi, ?_, ?_, ?_, fun z => by omega, fun z => by omega, fun z => by omega⟩
    · simp (disch := omega) only [e172_98, e172_99, e172_102, e172_103, ↓reduceIte, gM_0, a_94, inb_n, ix_n, if_true, ne_eq, Nat.reduceEqDiff, not_false_eq_true, vM, clK_s, tl_s, tl_n, clr_i, clr_n, clr_a, nI_add, gM_15, gM_16, y16, y15]
      rw [e172_106, if_neg (fun z => z hnn)]
      simp (disch := omega) only [e172_109, e172_110, e172_111, e172_114, e172_339, ↓reduceIte, gM_0, a_94, inb_n, ix_n, if_true, ne_eq, Nat.reduceEqDiff, not_false_eq_true, vM, clK_s, tl_s, tl_n, clr_i, clr_n, clr_a, nI_add, pM_18]
    · rw [su_rf, pk_un (by omega)]; exact y16
    · rw [su_rf, pk_un (by omega), y17]
      show nI (tkF tp n tk.2.2) = nI (tkB tp n (tkF tp n tk.2.2))
      unfold tkB
      rw [if_neg hlt, hfn]
    · rw [su_rf, pk_us]
      unfold tkR
      rw [if_neg (fun z => by omega), hk0]
end Tokr
