/-! THE REFERENCE READS: a whole text, from its start -/
def KFz (L : Nat) (σ σ2 : Nat → Nat → Int32) : Prop := Fr [93, 94] σ σ2 ∧ (∀ i, i < 15 ∨ 25 < i → σ2 93 i = σ 93 i) ∧ ∀ j, j < L ∨ L + 192 ≤ j → σ2 94 j = σ 94 j
section Kparse2
variable {E : aE} {D n N : Nat} {tp : Nat → Nat} {σ : Nat → Nat → Int32}
def lAt (N : Nat) : Nat := if N < 14 then 55 + 200 * N else 2851
theorem KF.z {L : Nat} {σ1 : Nat → Nat → Int32} {xv : Int32} (h : KF L σ σ1) : KFz L σ (su σ1 93 15 xv) := ⟨h.1.su (by simp), fun i hi => by rw [su_p (Or.inr (by omega))]; exact h.2.1 i (by omega), fun j hj => by rw [su_p (Or.inl (by omega))]; exact h.2.2 j hj⟩
theorem k_parse (hD : 70 ≤ D) (hK : KP σ n tp) (hN : σ 94 1 = nI N) (h14 : N ≤ 14) : ∃ σ2, Rn E D 184 0 [some (.ref 93), none, none] [] (shp, σ) = some (some (.int (spK (spP tp n))), (shp, σ2)) ∧ KFz (lAt N) σ σ2 ∧ σ2 93 15 = nI 0 ∧ (∀ pz, spP tp n = .inl pz → σ2 93 16 = nI pz) ∧ ∀ tx, spP tp n = .inr tx → KG σ2 (lAt N) tx := by
  obtain ⟨D, rfl⟩ : ∃ d, D = d + 1 := ⟨D - 1, by omega⟩
  have h96 := hK.1
  have hL : lAt N ≤ 2851 := by unfold lAt; split <;> omega
  obtain ⟨t1, t2⟩ := tok_w (tp := tp) (n := n) (tk := (0, 0, 0)) (Nat.zero_le _)
  obtain ⟨t3, t4⟩ := tok_w (tp := tp) (n := n) (tk := tok tp n (0, 0, 0)) t1.2.1
  have hW : PW tp n (tok tp n (tok tp n (0, 0, 0)), [], 0) := ⟨t3, Nat.zero_le _, Nat.zero_le _⟩
  have ⟨σa, ea⟩ : ∃ σa, σa = su (su (su (su (su (su (su σ 93 17 (nI 0)) 93 18 (nI 3)) 93 21 (nI 0)) 93 22 (nI 0)) 93 23 (nI 0)) 93 25 (nI 0)) 93 24 (nI (lAt N)) := ⟨_, rfl⟩
  have fa : KF (lAt N) σ σa := by
    rw [ea]
    exact ((((((KF.rf.f (by omega) (by omega)).f (by omega) (by omega)).f (by omega) (by omega)).f (by omega) (by omega)).f (by omega) (by omega)).f (by omega) (by omega)).f (by omega) (by omega)
  have ha15 : σa 93 15 = σ 93 15 := fa.2.1 15 (by omega)
  have ha17 : σa 93 17 = nI 0 := by rw [ea]; simp (disch := first | (left; omega) | (right; omega)) only [su_p]; rw [su_rf, pk_us]
  have ha18 : σa 93 18 = nI 3 := by rw [ea]; simp (disch := first | (left; omega) | (right; omega)) only [su_p]; rw [su_rf, pk_us]
  have ha21 : σa 93 21 = nI 0 := by rw [ea]; simp (disch := first | (left; omega) | (right; omega)) only [su_p]; rw [su_rf, pk_us]
  have ha22 : σa 93 22 = nI 0 := by rw [ea]; simp (disch := first | (left; omega) | (right; omega)) only [su_p]; rw [su_rf, pk_us]
  have ha23 : σa 93 23 = nI 0 := by rw [ea]; simp (disch := first | (left; omega) | (right; omega)) only [su_p]; rw [su_rf, pk_us]
  have ha25 : σa 93 25 = nI 0 := by rw [ea]; simp (disch := first | (left; omega) | (right; omega)) only [su_p]; rw [su_rf, pk_us]
  have ha24 : σa 93 24 = nI (lAt N) := by rw [ea, su_rf, pk_us]
  have hKa : KP σa n tp := hK.ext ha15 (fa.1 107 (by simp))
  obtain ⟨σ1, g1, g2, g3, g4⟩ := k_next (E := E) (d := D - 2) (tk := (3, 0, 0)) hKa ha17 ha18 (Nat.zero_le _) (by decide) (fun _ => by decide)
  rw [show D - 2 + 2 = D by omega] at g1
  rw [← tok_0 (a := 0)] at g4
  have hK1 : KP σ1 n tp := hKa.ext (g3 15 (by omega)) (g2 107 (by decide))
  have e94 : σ1 94 = σa 94 := g2 94 (by decide)
  have f1 : KF (lAt N) σ σ1 := fa.tr ⟨g2.mono (by simp), fun i hi => g3 i (by omega), fun j _ => by rw [e94]⟩
  have ⟨σb, eb⟩ : ∃ σb, σb = su (su (su (su (su (su σ 93 17 (nI 0)) 93 18 (nI 3)) 93 21 (nI 0)) 93 22 (nI 0)) 93 23 (nI 0)) 93 25 (nI 0) := ⟨_, rfl⟩
  have eb94 : σb 94 1 = nI N := by rw [eb]; simp (disch := first | (left; omega) | (right; omega)) only [su_p]; exact hN
  have hgo : Rn E (D + 1) 184 0 [some (.ref 93), none, none] [] (shp, σ) = Rn E (D + 1) 184 67 [some (.ref 93), none, none] [] (shp, σ1) := by
    have h0 : Rn E (D + 1) 184 0 [some (.ref 93), none, none] [] (shp, σ) = Rn E (D + 1) 184 30 [some (.ref 93), none, none] [] (shp, σb) := by
      rw [eb]
      simp (disch := omega) only [e184_0, e184_1, e184_2, e184_5, e184_6, e184_7, e184_10, e184_11, e184_12, e184_15, e184_16, e184_17, e184_20, e184_21, e184_22, e184_25, e184_26, e184_27, ↓reduceIte, gM_0, a_94, inb_n, ix_n, if_true, ne_eq, Nat.reduceEqDiff, not_false_eq_true, vM, clK_s, tl_s, tl_n, clr_i, clr_n, clr_a, nI_add, pM_17, pM_18, pM_21, pM_22, pM_23, pM_25]
    rw [h0]
    have hab : su σb 93 24 (nI (lAt N)) = σa := by rw [ea, eb]
    have h1 : Rn E (D + 1) 184 30 [some (.ref 93), none, none] [] (shp, σb) = Rn E (D + 1) 184 60 [some (.ref 93), none, none] [.int (nI (lAt N)), .ref 93] (shp, σb) := by
      by_cases hq : N < 14
      · have hq' : ¬ 14 ≤ N := by omega
        have el : lAt N = 51 + 200 * N + 4 := by unfold lAt; rw [if_pos hq]; omega
        rw [el]
        simp (disch := omega) only [e184_30, e184_31, e184_32, e184_35, e184_36, e184_37, e184_39, e184_42, e184_43, e184_44, e184_47, e184_48, e184_49, e184_52, e184_53, e184_54, e184_57, ↓reduceIte, gM_0, a_94, inb_n, ix_n, if_true, ne_eq, Nat.reduceEqDiff, not_false_eq_true, vM, clK_s, tl_s, tl_n, clr_i, clr_n, clr_a, nI_add, eb94, nI_leI, hq', k_textAt]
      · have hq' : 14 ≤ N := by omega
        have el : lAt N = 2851 := by unfold lAt; rw [if_neg hq]
        rw [el]
        simp (disch := omega) only [e184_30, e184_31, e184_32, e184_35, e184_36, e184_37, e184_39, e184_42, e184_43, e184_44, e184_47, e184_48, e184_49, e184_52, e184_53, e184_54, e184_57, ↓reduceIte, gM_0, a_94, inb_n, ix_n, if_true, ne_eq, Nat.reduceEqDiff, not_false_eq_true, vM, clK_s, tl_s, tl_n, clr_i, clr_n, clr_a, nI_add, eb94, nI_leI, hq']
    rw [h1]
    simp (disch := omega) only [e184_60, e184_63, e184_64, ↓reduceIte, gM_0, a_94, inb_n, ix_n, if_true, ne_eq, Nat.reduceEqDiff, not_false_eq_true, vM, clK_s, tl_s, tl_n, clr_i, clr_n, clr_a, nI_add, pM_24, hab, g1]
  have hkk := k_key (E := E) (D := D - 1) hK1 g4 t1
  rw [show D - 1 + 1 = D by omega] at hkk
  have h67 : Rn E (D + 1) 184 67 [some (.ref 93), none, none] [] (shp, σ1) = Rn E (D + 1) 184 72 [some (.ref 93), some (.int (oK (kyF tp (tok tp n (0, 0, 0))))), none] [] (shp, σ1) := by
    simp (disch := omega) only [e184_67, e184_68, e184_71, ↓reduceIte, gM_0, a_94, inb_n, ix_n, if_true, ne_eq, Nat.reduceEqDiff, not_false_eq_true, vM, clK_s, tl_s, tl_n, clr_i, clr_n, clr_a, nI_add, hkk]
  rw [hgo, h67]
  have hend0 : ∀ (σ3 : Nat → Nat → Int32) (kv : Int32), Rn E (D + 1) 184 111 [some (.ref 93), some (.int kv), some (.int (nI 0))] [] (shp, σ3) = some (some (.int (-1)), (shp, su σ3 93 15 (nI 0))) := by
    intro σ3 kv
    simp (disch := omega) only [e184_111, e184_112, e184_113, e184_116, e184_117, e184_120, e184_121, e184_124, e184_125, ↓reduceIte, gM_0, a_94, inb_n, ix_n, if_true, ne_eq, Nat.reduceEqDiff, not_false_eq_true, vM, clK_s, tl_s, tl_n, clr_i, clr_n, clr_a, nI_add, pM_15]
  have hend1 : ∀ (σ3 : Nat → Nat → Int32) (kv : Int32), Rn E (D + 1) 184 111 [some (.ref 93), some (.int kv), some (.int (nI 1))] [] (shp, σ3) = some (some (.int kv), (shp, su σ3 93 15 (nI 0))) := by
    intro σ3 kv
    simp (disch := omega) only [e184_111, e184_112, e184_113, e184_116, e184_117, e184_120, e184_121, e184_124, e184_125, ↓reduceIte, gM_0, a_94, inb_n, ix_n, if_true, ne_eq, Nat.reduceEqDiff, not_false_eq_true, vM, clK_s, tl_s, tl_n, clr_i, clr_n, clr_a, nI_add, pM_15, n10]
  unfold spP
  cases hk : kyF tp (tok tp n (0, 0, 0)) with
  | none =>
    have z : (-1 : Int32) < nI 0 := by decide +kernel
    refine ⟨su σ1 93 15 (nI 0), ?_, f1.z, by rw [su_rf, pk_us], fun pz hq => ?_, fun tx hq => (by cases hq)⟩
    · show Rn E (D + 1) 184 72 [_, some (.int (-1)), _] [] (shp, σ1) = _
      simp (disch := omega) only [e184_72, e184_73, e184_76, e184_77, e184_80, e184_81, e184_82, e184_83, ↓reduceIte, gM_0, a_94, inb_n, ix_n, if_true, ne_eq, Nat.reduceEqDiff, not_false_eq_true, vM, clK_s, tl_s, tl_n, clr_i, clr_n, clr_a, nI_add, z, hend0]
      rfl
    · cases hq
      rw [su_p (Or.inr (by omega))]
      exact g4.1
  | some key =>
    have hk3 := kyF_lt hk
    have hk1 := kyF_1 hk
    have z : ¬ nI key < nI 0 := nI_nlt (by omega) (by omega)
    have hS0 : KS σ1 n tp (lAt N) 0 0 (tok tp n (0, 0, 0), [], 0) := by
      refine ⟨hK1, g4, ?_, ?_, ?_, ?_, ?_, ?_⟩
      · rw [g3 21 (by omega)]; exact ha21
      · rw [g3 22 (by omega)]; exact ha22
      · rw [g3 23 (by omega)]; exact ha23
      · rw [g3 24 (by omega)]; exact ha24
      · rw [g3 25 (by omega)]; exact ha25
      · intro i w xv hq
        cases hq
    obtain ⟨σ2, y1, y2, y3⟩ := k_nx (E := E) (D := D) (by omega) hS0 t1 (by show (tok tp n (0, 0, 0)).1 ≠ 0; omega) (tkR_o (by show (tok tp n (0, 0, 0)).1 ≠ 2; omega))
    have y3 : KS σ2 n tp (lAt N) 0 0 (tok tp n (tok tp n (0, 0, 0)), [], 0) := y3
    have f2 := f1.tr y2
    cases hF : PF tp n key 2000 0 0 0 (tok tp n (tok tp n (0, 0, 0)), [], 0) with
    | none => exact absurd hF (PF_t _ _ _ _ _ (by omega) hW (by rw [if_pos (by omega)]; omega))
    | some r =>
      obtain ⟨σ3, a1, a2, a3⟩ := (k_PF (E := E) hk3 hL _ _ _ _ _ _ σ2 (by omega) hF hW (by omega) (by omega) y3).1 (by omega) D (by unfold kN; omega)
      have a1' : Rn E D 178 0 [some (.ref 93), some (.int (nI key))] [] (shp, σ2) = some (some (.int (bI (rB r))), (shp, σ3)) := a1
      have f3 := f2.tr a2
      have hgo2 : Rn E (D + 1) 184 72 [some (.ref 93), some (.int (oK (some key))), none] [] (shp, σ1) = Rn E (D + 1) 184 95 [some (.ref 93), some (.int (nI key)), some (.int (nI 1))] [.int (bI (rB r))] (shp, σ3) := by
        show Rn E (D + 1) 184 72 [_, some (.int (nI key)), _] [] (shp, σ1) = _
        simp (disch := omega) only [e184_72, e184_73, e184_76, e184_77, e184_80, e184_81, e184_82, e184_83, e184_86, e184_87, e184_90, e184_91, e184_92, ↓reduceIte, gM_0, a_94, inb_n, ix_n, if_true, ne_eq, Nat.reduceEqDiff, not_false_eq_true, vM, clK_s, tl_s, tl_n, clr_i, clr_n, clr_a, nI_add, z, n10, y1, a1']
      show ∃ σ4, Rn E (D + 1) 184 72 [some (.ref 93), some (.int (oK (some key))), none] [] (shp, σ1) = some (some (.int (spK (spE key (PF tp n key 2000 0 0 0 (tok tp n (tok tp n (0, 0, 0)), [], 0))))), (shp, σ4)) ∧ KFz (lAt N) σ σ4 ∧ σ4 93 15 = nI 0 ∧ (∀ pz, spE key (PF tp n key 2000 0 0 0 (tok tp n (tok tp n (0, 0, 0)), [], 0)) = .inl pz → σ4 93 16 = nI pz) ∧ ∀ tx, spE key (PF tp n key 2000 0 0 0 (tok tp n (tok tp n (0, 0, 0)), [], 0)) = .inr tx → KG σ4 (lAt N) tx
      rw [hF, hgo2]
      refine ⟨su σ3 93 15 (nI 0), ?_, f3.z, by rw [su_rf, pk_us], ?_, ?_⟩
      · cases r with
        | inl pz =>
          simp (disch := omega) only [e184_95, e184_98, e184_99, e184_102, e184_105, e184_106, e184_109, e184_110, ↓reduceIte, gM_0, a_94, inb_n, ix_n, if_true, ne_eq, Nat.reduceEqDiff, not_false_eq_true, vM, clK_s, tl_s, tl_n, clr_i, clr_n, clr_a, nI_add, rB, bI_0, Bool.true_eq_false, Bool.false_eq_true, not_true_eq_false, not_false_eq_true, if_false, reduceCtorEq, hend0]
          rfl
        | inr s =>
          have hG := PF_b _ _ _ _ _ _ (by omega) hF hW
          have k4 := hG.1.1.2.2.1
          have hR4 : tkR s.1 ≤ 4 := by unfold tkR; split <;> omega
          have e18 : σ3 93 18 = nI (tkR s.1) := a3.2.1.2.2.1
          by_cases h0 : s.1.1 = 0
          · have e0 : spE key (some (.inr s)) = .inr (key, s.2.2, s.2.1) := if_pos h0
            rw [tkR_0.mpr h0] at e18
            rw [e0]
            simp (disch := omega) only [e184_95, e184_98, e184_99, e184_102, e184_105, e184_106, e184_109, e184_110, ↓reduceIte, gM_0, a_94, inb_n, ix_n, if_true, ne_eq, Nat.reduceEqDiff, not_false_eq_true, vM, clK_s, tl_s, tl_n, clr_i, clr_n, clr_a, nI_add, rB, bI_0, Bool.true_eq_false, Bool.false_eq_true, not_true_eq_false, not_false_eq_true, if_false, reduceCtorEq, gM_18, e18, hend1]
            rfl
          · have e0 : spE key (some (.inr s)) = .inl s.1.2.1 := if_neg h0
            have hz : ¬ nI (tkR s.1) = nI 0 := fun z => h0 (tkR_0.mp ((nI_eq (by omega) (by omega)).mp z))
            rw [e0]
            simp (disch := omega) only [e184_95, e184_98, e184_99, e184_102, e184_105, e184_106, e184_109, e184_110, ↓reduceIte, gM_0, a_94, inb_n, ix_n, if_true, ne_eq, Nat.reduceEqDiff, not_false_eq_true, vM, clK_s, tl_s, tl_n, clr_i, clr_n, clr_a, nI_add, rB, bI_0, Bool.true_eq_false, Bool.false_eq_true, not_true_eq_false, not_false_eq_true, if_false, reduceCtorEq, gM_18, e18, hz, hend0]
            rfl
      · intro pz hq
        rw [su_p (Or.inr (by omega))]
        cases r with
        | inl p2 =>
          cases hq
          exact a3
        | inr s =>
          by_cases h0 : s.1.1 = 0
          · have e0 : spE key (some (.inr s)) = .inr (key, s.2.2, s.2.1) := if_pos h0
            rw [e0] at hq; cases hq
          · have e0 : spE key (some (.inr s)) = .inl s.1.2.1 := if_neg h0
            rw [e0] at hq
            cases hq
            exact a3.2.1.1
      · intro tx hq
        cases r with
        | inl p2 => cases hq
        | inr s =>
          by_cases h0 : s.1.1 = 0
          · have e0 : spE key (some (.inr s)) = .inr (key, s.2.2, s.2.1) := if_pos h0
            rw [e0] at hq
            cases hq
            obtain ⟨s1, s2, s3, s4, s5, s6, s7, s8⟩ := a3
            exact ⟨by rw [su_p (Or.inr (by omega))]; exact s5, by rw [su_p (Or.inr (by omega))]; exact s7, by rw [su_row (by omega)]; exact s8⟩
          · have e0 : spE key (some (.inr s)) = .inl s.1.2.1 := if_neg h0
            rw [e0] at hq; cases hq
end Kparse2
