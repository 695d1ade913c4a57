/-! THE CLASS READS: a whole text -/
section Cparse2
variable {E : aE} {D n : Nat} {tp : Nat → Nat} {σ : Nat → Nat → Int32} {h : Nat}
theorem cp_a {pz : Nat} {w2 : Option Value} (hp : pz ≤ 96) (h5 : σ 34 5 = nI pz) (h2 : σ 34 2 = nI 4) : Rn E (D + 1) 9 106 [some (.ref 34), some (.ref h), w2] [] (shp, σ) = some (some (.int (nI pz)), (shp, su (su σ 34 2 (nI 4)) 34 1 (nI 0))) := by
  have z : ¬ nI 4 = nI 0 := by decide +kernel
  have e5 : su (su σ 34 2 (nI 4)) 34 1 (nI 0) 34 5 = nI pz := by rw [su_p (Or.inr (by omega)), su_p (Or.inr (by omega))]; exact h5
  simp (disch := omega) only [e9_106, e9_107, e9_110, e9_113, e9_114, e9_117, e9_118, e9_119, e9_122, e9_123, e9_126, ↓reduceIte, inb_n, ix_n, if_true, ne_eq, Nat.reduceEqDiff, not_false_eq_true, clK_s, tl_s, tl_n, clr_i, clr_n, clr_a, nI_add, gR_2, h2, z, vR, c_fails2 h5 hp, pR_1, gR_5, e5]
theorem cp_b {w2 : Option Value} (h5 : σ 34 5 = (-1)) (h2 : σ 34 2 = nI 0) : Rn E (D + 1) 9 106 [some (.ref 34), some (.ref h), w2] [] (shp, σ) = some (some (.int (-1)), (shp, su σ 34 1 (nI 0))) := by
  have e5 : su σ 34 1 (nI 0) 34 5 = (-1) := by rw [su_p (Or.inr (by omega))]; exact h5
  simp (disch := omega) only [e9_106, e9_107, e9_110, e9_113, e9_114, e9_117, e9_118, e9_119, e9_122, e9_123, e9_126, ↓reduceIte, inb_n, ix_n, if_true, ne_eq, Nat.reduceEqDiff, not_false_eq_true, clK_s, tl_s, tl_n, clr_i, clr_n, clr_a, nI_add, gR_2, h2, pR_1, gR_5, e5]
theorem cp_c {pz : Nat} {w2 : Option Value} {xv : Int32} (h5 : σ 34 5 = (-1)) (h2 : σ 34 2 = xv) (hx : ¬ xv = nI 0) (h3 : σ 34 3 = nI pz) : Rn E (D + 1) 9 106 [some (.ref 34), some (.ref h), w2] [] (shp, σ) = some (some (.int (nI pz)), (shp, su (su (su σ 34 5 (nI pz)) 34 2 (nI 4)) 34 1 (nI 0))) := by
  have e5 : su (su (su σ 34 5 (nI pz)) 34 2 (nI 4)) 34 1 (nI 0) 34 5 = nI pz := by rw [su_p (Or.inr (by omega)), su_p (Or.inr (by omega)), su_rf, pk_us]
  simp (disch := omega) only [e9_106, e9_107, e9_110, e9_113, e9_114, e9_117, e9_118, e9_119, e9_122, e9_123, e9_126, ↓reduceIte, inb_n, ix_n, if_true, ne_eq, Nat.reduceEqDiff, not_false_eq_true, clK_s, tl_s, tl_n, clr_i, clr_n, clr_a, nI_add, gR_2, h2, hx, vR, c_fails1 h5 h3, pR_1, gR_5, e5]
theorem cp_key {tk : Tk} (hD : 4 ≤ D) (hT : TP σ n tp) (hC : CT σ tk) (hw : tkW tp n tk) : Rn E (D + 1) 9 39 [some (.ref 34), some (.ref h), none] [] (shp, σ) = Rn E (D + 1) 9 80 [some (.ref 34), some (.ref h), some (.int (oK (kyF tp tk)))] [] (shp, σ) := by
  have q0 := c_isWord (E := E) hD hT hC hw (h := 1010) ⟨by omega, by omega⟩
  have q1 := c_isWord (E := E) hD hT hC hw (h := 1011) ⟨by omega, by omega⟩
  have q2 := c_isWord (E := E) hD hT hC hw (h := 1012) ⟨by omega, by omega⟩
  rw [wd_4 (az := 112) (bz := 117) (cz := 108) (dz := 108) hT hw (by omega) (by omega) (by omega) (by omega) (by omega) (by decide +kernel)] at q0
  rw [wd_3 (az := 102) (bz := 101) (cz := 101) hT hw (by omega) (by omega) (by omega) (by decide +kernel)] at q1
  rw [wd_4 (az := 102) (bz := 105) (cz := 110) (dz := 101) hT hw (by omega) (by omega) (by omega) (by omega) (by omega) (by decide +kernel)] at q2
  unfold kyF
  by_cases h1 : wd4 tp tk 112 117 108 108
  · rw [decide_eq_true h1] at q0
    rw [if_pos h1]
    simp (disch := omega) only [e9_39, e9_40, e9_42, e9_45, e9_48, e9_49, e9_52, e9_53, e9_55, e9_58, e9_61, e9_62, e9_65, e9_66, e9_68, e9_71, e9_74, e9_75, e9_78, e9_79, ↓reduceIte, inb_n, ix_n, if_true, ne_eq, Nat.reduceEqDiff, not_false_eq_true, clK_s, tl_s, tl_n, clr_i, clr_n, clr_a, nI_add, vR, q0, bI_0, Bool.true_eq_false, Bool.false_eq_true, not_true_eq_false, not_false_eq_true, if_false, reduceCtorEq, oK]
  · rw [decide_eq_false h1] at q0
    rw [if_neg h1]
    by_cases h2 : wd4 tp tk 102 101 101 0
    · rw [decide_eq_true h2] at q1
      rw [if_pos h2]
      simp (disch := omega) only [e9_39, e9_40, e9_42, e9_45, e9_48, e9_49, e9_52, e9_53, e9_55, e9_58, e9_61, e9_62, e9_65, e9_66, e9_68, e9_71, e9_74, e9_75, e9_78, e9_79, ↓reduceIte, inb_n, ix_n, if_true, ne_eq, Nat.reduceEqDiff, not_false_eq_true, clK_s, tl_s, tl_n, clr_i, clr_n, clr_a, nI_add, vR, q0, q1, bI_0, Bool.true_eq_false, Bool.false_eq_true, not_true_eq_false, not_false_eq_true, if_false, reduceCtorEq, oK]
    · rw [decide_eq_false h2] at q1
      rw [if_neg h2]
      by_cases h3 : wd4 tp tk 102 105 110 101
      · rw [decide_eq_true h3] at q2
        rw [if_pos h3]
        simp (disch := omega) only [e9_39, e9_40, e9_42, e9_45, e9_48, e9_49, e9_52, e9_53, e9_55, e9_58, e9_61, e9_62, e9_65, e9_66, e9_68, e9_71, e9_74, e9_75, e9_78, e9_79, ↓reduceIte, inb_n, ix_n, if_true, ne_eq, Nat.reduceEqDiff, not_false_eq_true, clK_s, tl_s, tl_n, clr_i, clr_n, clr_a, nI_add, vR, q0, q1, q2, bI_0, Bool.true_eq_false, Bool.false_eq_true, not_true_eq_false, not_false_eq_true, if_false, reduceCtorEq, oK]
      · rw [decide_eq_false h3] at q2
        rw [if_neg h3]
        simp (disch := omega) only [e9_39, e9_40, e9_42, e9_45, e9_48, e9_49, e9_52, e9_53, e9_55, e9_58, e9_61, e9_62, e9_65, e9_66, e9_68, e9_71, e9_74, e9_75, e9_78, e9_79, ↓reduceIte, inb_n, ix_n, if_true, ne_eq, Nat.reduceEqDiff, not_false_eq_true, clK_s, tl_s, tl_n, clr_i, clr_n, clr_a, nI_add, vR, q0, q1, q2, bI_0, Bool.true_eq_false, Bool.false_eq_true, not_true_eq_false, not_false_eq_true, if_false, reduceCtorEq, oK]
theorem c_parse (hh : isW h) (hD : 90 ≤ D) (hT : TP σ n tp) : ∃ σ2, Rn E D 9 0 [some (.ref 34), some (.ref h), none] [] (shp, σ) = some (some (.int (spV (spP tp n))), (shp, σ2)) ∧ Fr [34, h, h + 1] σ σ2 ∧ σ2 34 1 = nI 0 ∧ ∀ tx, spP tp n = .inr tx → CG σ2 h tx := by
  obtain ⟨D, rfl⟩ : ∃ d, D = d + 1 := ⟨D - 1, by omega⟩
  obtain ⟨b1, b2⟩ := isW_b hh
  have h96 := hT.1
  obtain ⟨t1, t2⟩ := tok_w (tp := tp) (n := n) (tk := (0, 0, 0)) (Nat.zero_le _)
  obtain ⟨t3, t4⟩ := tok_w (tp := tp) (n := n) (tk := tok tp n (0, 0, 0)) t1.2.1
  have hW : PW tp n (tok tp n (tok tp n (0, 0, 0)), [], 0) := ⟨t3, Nat.zero_le _, Nat.zero_le _⟩
  -- the start
  have ⟨σa, ea⟩ : ∃ σa, σa = su (su (su (su (su (su (su σ 34 2 (nI 0)) 34 4 (nI 0)) 34 5 (-1)) 34 6 (nI 0)) 34 7 (nI 0)) h 1 (nI 0)) h 3 (nI 0) := ⟨_, rfl⟩
  have fa : Fr [34, h, h + 1] σ σa := by
    rw [ea]
    exact ((((((Fr.rf.su (by simp)).su (by simp)).su (by simp)).su (by simp)).su (by simp)).su (by simp)).su (by simp)
  have ha1 : σa 34 1 = σ 34 1 := by rw [ea]; simp (disch := first | (left; omega) | (right; omega)) only [su_p]
  have ha2 : σa 34 2 = nI 0 := by rw [ea]; simp (disch := first | (left; omega) | (right; omega)) only [su_p]; rw [su_rf, pk_us]
  have ha4 : σa 34 4 = nI 0 := by rw [ea]; simp (disch := first | (left; omega) | (right; omega)) only [su_p]; rw [su_rf, pk_us]
  have ha5 : σa 34 5 = (-1) := by rw [ea]; simp (disch := first | (left; omega) | (right; omega)) only [su_p]; rw [su_rf, pk_us]
  have ha6 : σa 34 6 = nI 0 := by rw [ea]; simp (disch := first | (left; omega) | (right; omega)) only [su_p]; rw [su_rf, pk_us]
  have ha7 : σa 34 7 = nI 0 := by rw [ea]; simp (disch := first | (left; omega) | (right; omega)) only [su_p]; rw [su_rf, pk_us]
  have hb1 : σa h 1 = nI 0 := by rw [ea]; simp (disch := first | (left; omega) | (right; omega)) only [su_p]; rw [su_rf, pk_us]
  have hb3 : σa h 3 = nI 0 := by rw [ea, su_rf, pk_us]
  have hTa : TP σa n tp := hT.ext ha1 (fa 35 (by simp; omega))
  obtain ⟨σ1, g1, g2, g3, g4⟩ := c_next (E := E) (d := D - 1) (tk := (0, 0, 0)) hTa ha2 ha4 (Nat.zero_le _) (by decide)
  rw [show D - 1 + 1 = D by omega] at g1
  have hT1 : TP σ1 n tp := hTa.ext (g3 1 (by omega) (by omega) (by omega)) (g2 35 (by simp))
  have eh1 : σ1 h = σa h := g2 h (by simp; omega)
  have f1 : Fr [34, h, h + 1] σ σ1 := fa.tr (g2.mono (by simp))
  have hgo : Rn E (D + 1) 9 0 [some (.ref 34), some (.ref h), none] [] (shp, σ) = Rn E (D + 1) 9 39 [some (.ref 34), some (.ref h), none] [] (shp, σ1) := by
    rw [ea] at g1
    simp (disch := omega) only [e9_0, e9_1, e9_2, e9_5, e9_6, e9_7, e9_10, e9_11, e9_12, e9_15, e9_16, e9_17, e9_20, e9_21, e9_22, e9_25, e9_26, e9_27, e9_30, e9_31, e9_32, e9_35, e9_36, ↓reduceIte, inb_n, ix_n, if_true, ne_eq, Nat.reduceEqDiff, not_false_eq_true, clK_s, tl_s, tl_n, clr_i, clr_n, clr_a, nI_add, pR_2, pR_4, pR_5, pR_6, pR_7, pW_1 hh, pW_3 hh, vR, g1]
  rw [hgo, cp_key (by omega) hT1 g4 t1]
  have c5 : σ1 34 5 = (-1) := by rw [g3 5 (by omega) (by omega) (by omega)]; exact ha5
  unfold spP
  cases hk : kyF tp (tok tp n (0, 0, 0)) with
  | none =>
    have z : ¬ nI 0 ≤ (-1 : Int32) := by decide +kernel
    refine ⟨su (su (su (su σ1 34 5 (nI (tok tp n (0, 0, 0)).2.1)) 34 2 (nI 4)) 34 2 (nI 4)) 34 1 (nI 0), ?_, ?_, ?_, fun tx hq => (by cases hq)⟩
    · show Rn E (D + 1) 9 80 [_, _, some (.int (-1))] [] (shp, σ1) = _
      simp (disch := omega) only [e9_80, e9_81, e9_84, e9_85, e9_88, ↓reduceIte, inb_n, ix_n, if_true, ne_eq, Nat.reduceEqDiff, not_false_eq_true, clK_s, tl_s, tl_n, clr_i, clr_n, clr_a, nI_add, z, vR, c_fails1 c5 g4.2.1]
      exact cp_a (pz := (tok tp n (0, 0, 0)).2.1) (by have := t1.1; omega) (by rw [su_p (Or.inr (by omega)), su_rf, pk_us]) (by rw [su_rf, pk_us])
    · exact (((f1.su (by simp)).su (by simp)).su (by simp)).su (by simp)
    · rw [su_rf, pk_us]
  | some key =>
    have hk3 := kyF_lt hk
    have z : nI 0 ≤ nI key := by rw [nI_leI (by omega) (by omega)]; omega
    have hT2 : TP (su σ1 h 2 (nI key)) n tp := hT1.ext (su_p (Or.inl (by omega))) (su_row (by omega))
    have e34 : su σ1 h 2 (nI key) 34 = σ1 34 := su_row (by omega)
    obtain ⟨σ2, y1, y2, y3, y4⟩ := c_nextD (E := E) (D := D) (tk := tok tp n (0, 0, 0)) (by omega) hT2 (by unfold CT; rw [e34]; exact g4) t1
    have eh2 : σ2 h = su σ1 h 2 (nI key) h := y2 h (by simp; omega)
    have o2 : ∀ i, i ≠ 2 → i ≠ 3 → i ≠ 4 → σ2 34 i = σa 34 i := fun i x1 x2 x3 => by rw [y3 i x1 x2 x3, e34, g3 i x1 x2 x3]
    have hS : CS σ2 h n key tp 0 0 (tok tp n (tok tp n (0, 0, 0)), [], 0) := by
      refine ⟨hT2.ext (y3 1 (by omega) (by omega) (by omega)) (y2 35 (by simp)), y4, ?_, ?_, ?_, ?_, ?_, ?_, ?_⟩
      · rw [o2 5 (by omega) (by omega) (by omega)]; exact ha5
      · rw [o2 7 (by omega) (by omega) (by omega)]; exact ha7
      · rw [o2 6 (by omega) (by omega) (by omega)]; exact ha6
      · rw [eh2, su_p (Or.inr (by omega)), eh1]; exact hb1
      · rw [eh2, su_rf, pk_us]
      · rw [eh2, su_p (Or.inr (by omega)), eh1]; exact hb3
      · intro i w xv hq
        cases hq
    have f2 : Fr [34, h, h + 1] σ σ2 := (f1.su (by simp)).tr (y2.mono (by simp))
    cases hF : PF tp n key 2000 0 0 0 (tok tp n (tok tp n (0, 0, 0)), [], 0) with
    | none => exact absurd hF (PF_t _ _ _ _ _ (by omega) hW (by rw [if_pos (by omega)]; omega))
    | some r =>
      show ∃ σ4, Rn E (D + 1) 9 80 [some (.ref 34), some (.ref h), some (.int (oK (some key)))] [] (shp, σ1) = some (some (.int (spV (spE key (PF tp n key 2000 0 0 0 (tok tp n (tok tp n (0, 0, 0)), [], 0))))), (shp, σ4)) ∧ Fr [34, h, h + 1] σ σ4 ∧ σ4 34 1 = nI 0 ∧ ∀ tx, spE key (PF tp n key 2000 0 0 0 (tok tp n (tok tp n (0, 0, 0)), [], 0)) = .inr tx → CG σ4 h tx
      rw [hF]
      obtain ⟨σ3, a1, a2, a3⟩ := (c_PF (E := E) hh hk3 _ _ _ _ _ _ σ2 (by omega) hF hW (by omega) (by omega) hS).2.1 (by omega) D (by unfold pN; omega)
      have hgo2 : Rn E (D + 1) 9 80 [some (.ref 34), some (.ref h), some (.int (oK (some key)))] [] (shp, σ1) = Rn E (D + 1) 9 106 [some (.ref 34), some (.ref h), some (.int (nI key))] [] (shp, σ3) := by
        show Rn E (D + 1) 9 80 [_, _, some (.int (nI key))] [] (shp, σ1) = _
        simp (disch := omega) only [e9_80, e9_81, e9_84, e9_85, e9_88, e9_91, e9_92, e9_93, e9_96, e9_97, e9_100, e9_101, e9_102, e9_103, ↓reduceIte, inb_n, ix_n, if_true, ne_eq, Nat.reduceEqDiff, not_false_eq_true, clK_s, tl_s, tl_n, clr_i, clr_n, clr_a, nI_add, z, pW_2 hh, vR, y1, a1]
      have f3 : Fr [34, h, h + 1] σ σ3 := f2.tr a2
      rw [hgo2]
      cases r with
      | inl pz =>
        have hp := PF_f _ _ _ _ _ _ (by omega) hF hW
        exact ⟨su (su σ3 34 2 (nI 4)) 34 1 (nI 0), cp_a (by omega) a3.2.1 a3.2.2.1, (f3.su (by simp)).su (by simp), by rw [su_rf, pk_us], fun tx hq => (by cases hq)⟩
      | inr s =>
        have hG := PF_b _ _ _ _ _ _ (by omega) hF hW
        obtain ⟨s1, s2, s3, s4, s5, s6, s7, s8, s9⟩ := a3
        have k4 := hG.1.1.2.2.1
        show ∃ σ2, Rn E (D + 1) 9 106 [some (.ref 34), some (.ref h), some (.int (nI key))] [] (shp, σ3) = some (some (.int (spV (spE key (some (.inr s))))), (shp, σ2)) ∧ Fr [34, h, h + 1] σ σ2 ∧ σ2 34 1 = nI 0 ∧ ∀ tx, spE key (some (.inr s)) = .inr tx → CG σ2 h tx
        by_cases h0 : s.1.1 = 0
        · have e0 : spE key (some (.inr s)) = .inr (key, s.2.2, s.2.1) := if_pos h0
          rw [e0]
          refine ⟨_, cp_b s3 (by rw [s2.1, h0]), f3.su (by simp), by rw [su_rf, pk_us], fun tx hq => ?_⟩
          cases hq
          exact ⟨by rw [su_row (by omega)]; exact s6, by rw [su_row (by omega)]; exact s7, by rw [su_row (by omega)]; exact s8, by rw [su_row (by omega)]; exact s9⟩
        · have e0 : spE key (some (.inr s)) = .inl s.1.2.1 := if_neg h0
          rw [e0]
          exact ⟨_, cp_c s3 s2.1 (fun z => h0 ((nI_eq (by omega) (by omega)).mp z)) s2.2.1, ((f3.su (by simp)).su (by simp)).su (by simp), by rw [su_rf, pk_us], fun tx hq => (by cases hq)⟩
end Cparse2
