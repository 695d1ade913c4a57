/-! THE REFERENCE READS: pieces, and all levels -/
section Kpf3
variable {E : aE} {n key L : Nat} {tp : Nat → Nat}
theorem tkR_o {tk : Tk} (h : tk.1 ≠ 2) : tkR tk = tk.1 := by
  unfold tkR
  rw [if_neg (fun z => h z.1)]
theorem k_PF (hk : key < 3) (hL : L ≤ 2851) : ∀ f m nt dp (s : PS) (r : Nat ⊕ PS) (σ : Nat → Nat → Int32), m ≤ 10 → PF tp n key f m nt dp s = some r → PW tp n s → nt ≤ 8 → dp ≤ 8 → KS σ n tp L nt dp s →
    (m ≤ 5 → ∀ D, 5 - m + kN nt dp ≤ D → RK n tp L nt dp r σ (Rn E D (kM m) 0 (kL m key none) [] (shp, σ))) ∧
    (5 < m → ∀ D w, 11 - m + kN nt dp ≤ D → RK n tp L nt dp r σ (Rn E D (kM (m - 6)) 10 (kL (m - 6) key w) [] (shp, σ))) := by
  intro f
  induction f with
  | zero => intro m nt dp s r σ _ hF; cases hF
  | succ f ih =>
    intro m nt dp s r σ h10 hF hW hnt hdp hS
    have h96 := hS.1.1
    have hkN : 3 ≤ kN nt dp := by unfold kN; omega
    by_cases h5 : m < 5
    · refine ⟨fun _ D hD => ?_, fun hq => by omega⟩
      obtain ⟨D, rfl⟩ : ∃ d, D = d + 1 := ⟨D - 1, by omega⟩
      unfold PF at hF
      rw [if_pos h5] at hF
      rcases bnd_r hF with ⟨pz, q1, q⟩ | ⟨s1, q1, q2⟩
      · obtain ⟨σ1, g1, g2, g3⟩ := (ih _ _ _ _ _ σ (by omega) q1 hW hnt hdp hS).1 (by omega) D (by omega)
        rw [q, k_lvA h5 g1]
        exact ⟨σ1, rfl, g2, g3⟩
      · obtain ⟨σ1, g1, g2, g3⟩ := (ih _ _ _ _ _ σ (by omega) q1 hW hnt hdp hS).1 (by omega) D (by omega)
        have hG := PF_b _ _ _ _ _ _ (by omega) q1 hW
        have := (ih _ _ _ _ _ σ1 (by omega) q2 hG.1 hnt hdp g3).2 (by omega) (D + 1) none (by omega)
        rw [show m + 6 - 6 = m by omega] at this
        rw [k_lvB h5 g1]
        exact RK.tr g2 this
    · by_cases h6 : m = 5
      · refine ⟨fun _ D hD => ?_, fun hq => by omega⟩
        obtain ⟨D, rfl⟩ : ∃ d, D = d + 1 := ⟨D - 1, by omega⟩
        rw [h6]
        show RK n tp L nt dp r σ (Rn E (D + 1) 183 0 [some (.ref 93), some (.int (nI key))] [] (shp, σ))
        unfold PF at hF
        rw [if_neg h5, if_pos h6] at hF
        have hT := hS.2.1
        obtain ⟨k1, k2, k3, k4, k5, k6⟩ := hS.2.1
        obtain ⟨w1, w2, w3, w4, w5, w6⟩ := hW.1
        have l96 := hW.2.1
        have z12 : ¬ nI 1 = nI 2 := by decide +kernel
        by_cases c1 : isNu s
        · rw [if_pos c1] at hF
          cases Option.some.inj hF
          have c11 := c1.1
          have hR : tkR s.1 = s.1.1 := by unfold tkR; rw [if_neg (fun z => by have := c1.2; omega)]
          have k3' : σ 93 18 = nI 2 := by rw [k3, hR, c11]
          have k6' := k6 c11 c1.2
          have a1 := k_step (E := E) (D := D) (wz := 0) (xv := nI (nuF tp (s.1.2.2 - s.1.2.1) s.1.2.1 0)) hS.2.2.2.2.1 hS.2.2.2.2.2.1 (show s.2.1.length < 96 by omega) hL
          have b1 := KS.ad (pp := (0, nI (nuF tp (s.1.2.2 - s.1.2.1) s.1.2.1 0))) hS
          have b2 := KS.f (i := 25) (xv := nI (s.2.2 + 1)) (nt2 := nt) (dp2 := dp) (k2 := s.2.2 + 1) b1 (Or.inr (Or.inr ⟨rfl, rfl, rfl, rfl⟩))
          obtain ⟨σ2, g1, g2, g3⟩ := k_nx (E := E) (D := D) (by omega) b2 hW.1 (show s.1.1 ≠ 0 by omega) hR
          have e25 := b1.2.2.2.2.2.2.1
          refine ⟨σ2, ?_, KF.tr ((KF.ad (pp := (0, nI (nuF tp (s.1.2.2 - s.1.2.1) s.1.2.1 0))) KF.rf (by omega)).f (by omega) (by omega)) g2, g3⟩
          have e25' : su (su (su σ 94 (L + 2 * s.2.1.length) (nI 0)) 94 (L + 2 * s.2.1.length + 1) (nI (nuF tp (s.1.2.2 - s.1.2.1) s.1.2.1 0))) 93 23 (nI (s.2.1.length + 1)) 93 25 = nI s.2.2 := e25
          have g1' : Rn E D 172 0 [some (.ref 93), none, none] [] (shp, su (su (su (su σ 94 (L + 2 * s.2.1.length) (nI 0)) 94 (L + 2 * s.2.1.length + 1) (nI (nuF tp (s.1.2.2 - s.1.2.1) s.1.2.1 0))) 93 23 (nI (s.2.1.length + 1))) 93 25 (nI (s.2.2 + 1))) = some (none, (shp, σ2)) := g1
          simp (disch := omega) only [e183_0, e183_1, e183_4, e183_5, e183_8, e183_9, e183_10, e183_11, e183_14, e183_17, e183_18, e183_19, e183_22, e183_23, e183_24, e183_27, e183_28, e183_31, e183_32, ↓reduceIte, gM_0, a_94, inb_n, ix_n, if_true, ne_eq, Nat.reduceEqDiff, not_false_eq_true, vM, clK_s, tl_s, tl_n, clr_i, clr_n, clr_a, nI_add, gM_18, gM_19, gM_25, pM_25, k3', k6', not_true_eq_false, a1, e25', g1', rz_1, rB]
        · rw [if_neg c1] at hF
          by_cases c2 : isNa tp key s
          · rw [if_pos c2] at hF
            cases Option.some.inj hF
            have c21 := c2.1
            obtain ⟨v1, v2⟩ := w6 c21
            have hR : tkR s.1 = s.1.1 := tkR_o (by omega)
            have k3' : σ 93 18 = nI 1 := by rw [k3, hR, c21]
            have k4' : σ 93 20 = nI (tp s.1.2.1) := by rw [k4 c21, if_pos c2.2.1]
            have hz : ¬ nI (tp s.1.2.1) = nI 0 := fun z => by have := (nI_eq (a := tp s.1.2.1) (b := 0) (by omega) (by omega)).mp z; omega
            have hn := k_isName (E := E) (D := D) (σ := σ) (lz := tp s.1.2.1) hk (by omega)
            rw [c2.2.2] at hn
            have a1 := k_step (E := E) (D := D) (wz := 1) (xv := nI (tp s.1.2.1)) hS.2.2.2.2.1 hS.2.2.2.2.2.1 (show s.2.1.length < 96 by omega) hL
            have b1 := KS.ad (pp := (1, nI (tp s.1.2.1))) hS
            have b2 := KS.f (i := 25) (xv := nI (s.2.2 + 1)) (nt2 := nt) (dp2 := dp) (k2 := s.2.2 + 1) b1 (Or.inr (Or.inr ⟨rfl, rfl, rfl, rfl⟩))
            obtain ⟨σ2, g1, g2, g3⟩ := k_nx (E := E) (D := D) (by omega) b2 hW.1 (show s.1.1 ≠ 0 by omega) hR
            refine ⟨σ2, ?_, KF.tr ((KF.ad (pp := (1, nI (tp s.1.2.1))) KF.rf (by omega)).f (by omega) (by omega)) g2, g3⟩
            have e25' : su (su (su σ 94 (L + 2 * s.2.1.length) (nI 1)) 94 (L + 2 * s.2.1.length + 1) (nI (tp s.1.2.1))) 93 23 (nI (s.2.1.length + 1)) 93 25 = nI s.2.2 := b1.2.2.2.2.2.2.1
            have g1' : Rn E D 172 0 [some (.ref 93), none, none] [] (shp, su (su (su (su σ 94 (L + 2 * s.2.1.length) (nI 1)) 94 (L + 2 * s.2.1.length + 1) (nI (tp s.1.2.1))) 93 23 (nI (s.2.1.length + 1))) 93 25 (nI (s.2.2 + 1))) = some (none, (shp, σ2)) := g1
            simp (disch := omega) only [e183_0, e183_1, e183_4, e183_5, e183_33, e183_34, e183_37, e183_38, e183_41, e183_42, e183_45, e183_48, e183_49, e183_50, e183_53, e183_56, e183_59, e183_60, e183_61, e183_62, e183_65, e183_68, e183_69, e183_70, e183_73, e183_74, e183_75, e183_78, e183_79, e183_82, e183_83, ↓reduceIte, gM_0, a_94, inb_n, ix_n, if_true, ne_eq, Nat.reduceEqDiff, not_false_eq_true, vM, clK_s, tl_s, tl_n, clr_i, clr_n, clr_a, nI_add, gM_18, gM_20, gM_25, pM_25, k3', k4', z12, hz, not_true_eq_false, hn, bI_0, Bool.true_eq_false, Bool.false_eq_true, not_true_eq_false, not_false_eq_true, if_false, reduceCtorEq, a1, e25', g1', rz_1, rB]
          · rw [if_neg c2] at hF
            have hR4 : tkR s.1 ≤ 4 := by unfold tkR; split <;> omega
            have h84 : Rn E (D + 1) 183 0 [some (.ref 93), some (.int (nI key))] [] (shp, σ) = Rn E (D + 1) 183 84 [some (.ref 93), some (.int (nI key))] [] (shp, σ) := by
              have hn2 : tkR s.1 ≠ 2 := by
                unfold tkR
                by_cases hq : s.1.1 = 2 ∧ 4 < s.1.2.2 - s.1.2.1
                · rw [if_pos hq]; omega
                · rw [if_neg hq]
                  intro z
                  rcases Nat.lt_or_ge 4 (s.1.2.2 - s.1.2.1) with q | q
                  · exact hq ⟨z, q⟩
                  · exact c1 ⟨z, q⟩
              have hn2' : ¬ nI (tkR s.1) = nI 2 := fun z => hn2 ((nI_eq (by omega) (by omega)).mp z)
              by_cases a1 : s.1.1 = 1
              · have hR : tkR s.1 = s.1.1 := tkR_o (by omega)
                have k3' : σ 93 18 = nI 1 := by rw [k3, hR, a1]
                obtain ⟨v1, v2⟩ := w6 a1
                by_cases a2 : s.1.2.2 = s.1.2.1 + 1
                · have k4' : σ 93 20 = nI (tp s.1.2.1) := by rw [k4 a1, if_pos a2]
                  have hz : ¬ nI (tp s.1.2.1) = nI 0 := fun z => by have := (nI_eq (a := tp s.1.2.1) (b := 0) (by omega) (by omega)).mp z; omega
                  have hn := k_isName (E := E) (D := D) (σ := σ) (lz := tp s.1.2.1) hk (by omega)
                  have hf : nmK key (tp s.1.2.1) = false := by
                    cases hq : nmK key (tp s.1.2.1) with
                    | false => rfl
                    | true => exact absurd ⟨a1, a2, hq⟩ c2
                  rw [hf] at hn
                  simp (disch := omega) only [e183_0, e183_1, e183_4, e183_5, e183_33, e183_34, e183_37, e183_38, e183_41, e183_42, e183_45, e183_48, e183_49, e183_50, e183_53, e183_56, ↓reduceIte, gM_0, a_94, inb_n, ix_n, if_true, ne_eq, Nat.reduceEqDiff, not_false_eq_true, vM, clK_s, tl_s, tl_n, clr_i, clr_n, clr_a, nI_add, gM_18, gM_20, k3', k4', z12, hz, not_true_eq_false, hn, bI_0, Bool.true_eq_false, Bool.false_eq_true, not_true_eq_false, not_false_eq_true, if_false, reduceCtorEq]
                · have k4' : σ 93 20 = nI 0 := by rw [k4 a1, if_neg a2]
                  simp (disch := omega) only [e183_0, e183_1, e183_4, e183_5, e183_33, e183_34, e183_37, e183_38, e183_41, e183_42, e183_45, ↓reduceIte, gM_0, a_94, inb_n, ix_n, if_true, ne_eq, Nat.reduceEqDiff, not_false_eq_true, vM, clK_s, tl_s, tl_n, clr_i, clr_n, clr_a, nI_add, gM_18, gM_20, k3', k4', z12, not_true_eq_false]
              · have hn1' : ¬ nI (tkR s.1) = nI 1 := fun z => by
                  have := (nI_eq (a := tkR s.1) (b := 1) (by omega) (by omega)).mp z
                  unfold tkR at this
                  split at this <;> omega
                simp (disch := omega) only [e183_0, e183_1, e183_4, e183_5, e183_33, e183_34, e183_37, e183_38, ↓reduceIte, gM_0, a_94, inb_n, ix_n, if_true, ne_eq, Nat.reduceEqDiff, not_false_eq_true, vM, clK_s, tl_s, tl_n, clr_i, clr_n, clr_a, nI_add, gM_18, k3, hn2', hn1']
            rw [h84]
            have hs : ∀ cz, 0 < cz → cz < 128 → Rn E D 173 0 [some (.ref 93), some (.int (nI cz))] [] (shp, σ) = some (some (.int (bI (decide (sgn tp s.1 = cz)))), (shp, σ)) := fun cz h0 hc => k_isSign hS.1 hT hW.1 h0 hc
            have s33 := hs 33 (by omega) (by omega)
            have s40 := hs 40 (by omega) (by omega)
            by_cases c3 : sgn tp s.1 = 33 ∧ nt < 8
            · rw [if_pos c3] at hF
              obtain ⟨c31, c32⟩ := c3
              have k0 := (sgn_3 (tp := tp) (tk := s.1) (by omega)).1
              rw [decide_eq_true c31] at s33
              have hn8 : ¬ 8 ≤ nt := by omega
              obtain ⟨x1, x2, x3⟩ := hW.nx (show s.1.1 ≠ 0 by omega)
              have hS1 : KS (su σ 93 22 (nI (nt + 1))) n tp L (nt + 1) dp s := KS.f (i := 22) (xv := nI (nt + 1)) (nt2 := nt + 1) (dp2 := dp) (k2 := s.2.2) hS (Or.inr (Or.inl ⟨rfl, rfl, rfl, rfl⟩))
              obtain ⟨σ1, y1, y2, y3⟩ := k_nx (E := E) (D := D) (by omega) hS1 hW.1 (show s.1.1 ≠ 0 by omega) (tkR_o (by omega))
              have hpp : 5 - 5 + kN (nt + 1) dp ≤ D := by unfold kN at hD ⊢; omega
              have y2' : KF L σ σ1 := KF.tr (KF.rf.f (by omega) (by omega)) y2
              have hgo : Rn E (D + 1) 183 84 [some (.ref 93), some (.int (nI key))] [] (shp, σ) = clK (Rn E D 183 0 [some (.ref 93), some (.int (nI key))] [] (shp, σ1)) (fun vv St => Rn E (D + 1) 183 121 [some (.ref 93), some (.int (nI key))] (vv.toList ++ []) St) := by
                simp (disch := omega) only [e183_84, e183_85, e183_87, e183_90, e183_93, e183_94, e183_97, e183_99, e183_102, e183_103, e183_104, e183_107, e183_108, e183_109, e183_112, e183_113, e183_116, e183_117, e183_118, ↓reduceIte, gM_0, a_94, inb_n, ix_n, if_true, ne_eq, Nat.reduceEqDiff, not_false_eq_true, vM, clK_s, tl_s, tl_n, clr_i, clr_n, clr_a, nI_add, s33, bI_0, Bool.true_eq_false, Bool.false_eq_true, not_true_eq_false, not_false_eq_true, if_false, reduceCtorEq, gM_22, pM_22, hS.2.2.2.1, nI_leI, hn8, y1]
              rcases bnd_r hF with ⟨pz, q1, q⟩ | ⟨s1, q1, q2⟩
              · obtain ⟨σ2, g1, g2, g3⟩ := (ih _ _ _ _ _ σ1 (by omega) q1 x1 (by omega) hdp y3).1 (by omega) D hpp
                have g1' : Rn E D 183 0 [some (.ref 93), some (.int (nI key))] [] (shp, σ1) = some (some (.int (bI false)), (shp, σ2)) := g1
                rw [q, hgo, g1']
                refine ⟨σ2, ?_, y2'.tr g2, g3⟩
                simp (disch := omega) only [e183_121, e183_124, e183_125, ↓reduceIte, gM_0, a_94, inb_n, ix_n, if_true, ne_eq, Nat.reduceEqDiff, not_false_eq_true, vM, clK_s, tl_s, tl_n, clr_i, clr_n, clr_a, nI_add, bI_0, Bool.true_eq_false, Bool.false_eq_true, not_true_eq_false, not_false_eq_true, if_false, reduceCtorEq, rz_0, rB]
              · obtain ⟨σ2, g1, g2, g3⟩ := (ih _ _ _ _ _ σ1 (by omega) q1 x1 (by omega) hdp y3).1 (by omega) D hpp
                have g1' : Rn E D 183 0 [some (.ref 93), some (.int (nI key))] [] (shp, σ1) = some (some (.int (bI true)), (shp, σ2)) := g1
                obtain ⟨t1, t2, t3, t4, t5, l1, t6⟩ := PF_b _ _ _ _ _ _ (by omega) q1 x1
                have e1 : (nxS tp n s).2 = s.2 := rfl
                rw [e1] at t2
                have t4 := t4 (by omega)
                have hl : s1.2.1.length < s1.1.2.1 := by omega
                have t0 := t1.1.1
                have e22 : σ2 93 22 = nI (nt + 1) := g3.2.2.2.1
                have g4 : KS (su σ2 93 22 (nI nt)) n tp L nt dp s1 := KS.f (i := 22) (xv := nI nt) (nt2 := nt) (dp2 := dp) (k2 := s1.2.2) g3 (Or.inr (Or.inl ⟨rfl, rfl, rfl, rfl⟩))
                have a1 := k_step (E := E) (D := D) (wz := 2) (xv := nI 33) g4.2.2.2.2.1 g4.2.2.2.2.2.1 (show s1.2.1.length < 96 by omega) hL
                have b1 := KS.ad (pp := (2, nI 33)) g4
                cases Option.some.inj q2
                rw [hgo, g1']
                have hsub : nI (nt + 1) - nI 1 = nI nt := by rw [pk_sub (by omega)]; rfl
                refine ⟨_, ?_, KF.ad (pp := (2, nI 33)) ((y2'.tr g2).f (by omega) (by omega)) (show s1.2.1.length < 96 by omega), b1⟩
                simp (disch := omega) only [e183_121, e183_124, e183_125, e183_126, e183_127, e183_128, e183_131, e183_132, e183_133, e183_136, e183_137, e183_138, e183_140, e183_143, e183_144, ↓reduceIte, gM_0, a_94, inb_n, ix_n, if_true, ne_eq, Nat.reduceEqDiff, not_false_eq_true, vM, clK_s, tl_s, tl_n, clr_i, clr_n, clr_a, nI_add, bI_0, Bool.true_eq_false, Bool.false_eq_true, not_true_eq_false, not_false_eq_true, if_false, reduceCtorEq, gM_22, pM_22, e22, hsub, a1, rz_1, rB]
            · rw [if_neg c3] at hF
              have h145 : Rn E (D + 1) 183 84 [some (.ref 93), some (.int (nI key))] [] (shp, σ) = Rn E (D + 1) 183 145 [some (.ref 93), some (.int (nI key))] [] (shp, σ) := by
                by_cases a1 : sgn tp s.1 = 33
                · rw [decide_eq_true a1] at s33
                  have hn8 : 8 ≤ nt := by
                    rcases Nat.lt_or_ge nt 8 with q | q
                    · exact absurd ⟨a1, q⟩ c3
                    · exact q
                  simp (disch := omega) only [e183_84, e183_85, e183_87, e183_90, e183_93, e183_94, e183_97, e183_99, ↓reduceIte, gM_0, a_94, inb_n, ix_n, if_true, ne_eq, Nat.reduceEqDiff, not_false_eq_true, vM, clK_s, tl_s, tl_n, clr_i, clr_n, clr_a, nI_add, s33, bI_0, Bool.true_eq_false, Bool.false_eq_true, not_true_eq_false, not_false_eq_true, if_false, reduceCtorEq, gM_22, hS.2.2.2.1, nI_leI, hn8]
                · rw [decide_eq_false a1] at s33
                  simp (disch := omega) only [e183_84, e183_85, e183_87, e183_90, ↓reduceIte, gM_0, a_94, inb_n, ix_n, if_true, ne_eq, Nat.reduceEqDiff, not_false_eq_true, vM, clK_s, tl_s, tl_n, clr_i, clr_n, clr_a, nI_add, s33, bI_0, Bool.true_eq_false, Bool.false_eq_true, not_true_eq_false, not_false_eq_true, if_false, reduceCtorEq]
              rw [h145]
              by_cases c4 : sgn tp s.1 = 40 ∧ dp < 8
              · rw [if_pos c4] at hF
                obtain ⟨c41, c42⟩ := c4
                have k0 := (sgn_3 (tp := tp) (tk := s.1) (by omega)).1
                rw [decide_eq_true c41] at s40
                have hn8 : ¬ nI dp = nI 8 := fun z => by have := (nI_eq (a := dp) (b := 8) (by omega) (by omega)).mp z; omega
                obtain ⟨x1, x2, x3⟩ := hW.nx (show s.1.1 ≠ 0 by omega)
                have hS1 : KS (su σ 93 21 (nI (dp + 1))) n tp L nt (dp + 1) s := KS.f (i := 21) (xv := nI (dp + 1)) (nt2 := nt) (dp2 := dp + 1) (k2 := s.2.2) hS (Or.inl ⟨rfl, rfl, rfl, rfl⟩)
                obtain ⟨σ1, y1, y2, y3⟩ := k_nx (E := E) (D := D) (by omega) hS1 hW.1 (show s.1.1 ≠ 0 by omega) (tkR_o (by omega))
                have hpp : 5 - 0 + kN nt (dp + 1) ≤ D := by unfold kN at hD ⊢; omega
                have y2' : KF L σ σ1 := KF.tr (KF.rf.f (by omega) (by omega)) y2
                have hgo : Rn E (D + 1) 183 145 [some (.ref 93), some (.int (nI key))] [] (shp, σ) = clK (Rn E D 178 0 [some (.ref 93), some (.int (nI key))] [] (shp, σ1)) (fun vv St => Rn E (D + 1) 183 184 [some (.ref 93), some (.int (nI key))] (vv.toList ++ []) St) := by
                  simp (disch := omega) only [e183_145, e183_146, e183_148, e183_151, e183_154, e183_155, e183_158, e183_160, e183_163, e183_164, e183_165, e183_166, e183_167, e183_170, e183_171, e183_172, e183_175, e183_176, e183_179, e183_180, e183_181, ↓reduceIte, gM_0, a_94, inb_n, ix_n, if_true, ne_eq, Nat.reduceEqDiff, not_false_eq_true, vM, clK_s, tl_s, tl_n, clr_i, clr_n, clr_a, nI_add, s40, bI_0, Bool.true_eq_false, Bool.false_eq_true, not_true_eq_false, not_false_eq_true, if_false, reduceCtorEq, gM_21, pM_21, hS.2.2.1, hn8, y1]
                rcases bnd_r hF with ⟨pz, q1, q⟩ | ⟨s1, q1, q2⟩
                · obtain ⟨σ2, g1, g2, g3⟩ := (ih _ _ _ _ _ σ1 (by omega) q1 x1 hnt (by omega) y3).1 (by omega) D hpp
                  have g1' : Rn E D 178 0 [some (.ref 93), some (.int (nI key))] [] (shp, σ1) = some (some (.int (bI false)), (shp, σ2)) := g1
                  rw [q, hgo, g1']
                  refine ⟨σ2, ?_, y2'.tr g2, g3⟩
                  simp (disch := omega) only [e183_184, e183_187, e183_188, e183_190, e183_193, e183_196, e183_197, ↓reduceIte, gM_0, a_94, inb_n, ix_n, if_true, ne_eq, Nat.reduceEqDiff, not_false_eq_true, vM, clK_s, tl_s, tl_n, clr_i, clr_n, clr_a, nI_add, bI_0, Bool.true_eq_false, Bool.false_eq_true, not_true_eq_false, not_false_eq_true, if_false, reduceCtorEq, rz_0, rB]
                · obtain ⟨σ2, g1, g2, g3⟩ := (ih _ _ _ _ _ σ1 (by omega) q1 x1 hnt (by omega) y3).1 (by omega) D hpp
                  have g1' : Rn E D 178 0 [some (.ref 93), some (.int (nI key))] [] (shp, σ1) = some (some (.int (bI true)), (shp, σ2)) := g1
                  have hG := (PF_b _ _ _ _ _ _ (by omega) q1 x1).1
                  have s41 := k_isSign (E := E) (D := D) (cz := 41) g3.1 g3.2.1 hG.1 (by omega) (by omega)
                  have e21 : σ2 93 21 = nI (dp + 1) := g3.2.2.1
                  rw [hgo, g1']
                  by_cases c5 : sgn tp s1.1 = 41
                  · rw [if_pos c5] at q2
                    cases Option.some.inj q2
                    rw [decide_eq_true c5] at s41
                    have k0' := (sgn_3 (tp := tp) (tk := s1.1) (by omega)).1
                    have g4 : KS (su σ2 93 21 (nI dp)) n tp L nt dp s1 := KS.f (i := 21) (xv := nI dp) (nt2 := nt) (dp2 := dp) (k2 := s1.2.2) g3 (Or.inl ⟨rfl, rfl, rfl, rfl⟩)
                    obtain ⟨σ3, a1, a2, a3⟩ := k_nx (E := E) (D := D) (by omega) g4 hG.1 (show s1.1.1 ≠ 0 by omega) (tkR_o (by omega))
                    have hsub : nI (dp + 1) - nI 1 = nI dp := by rw [pk_sub (by omega)]; rfl
                    refine ⟨σ3, ?_, ((y2'.tr g2).f (by omega) (by omega)).tr a2, a3⟩
                    simp (disch := omega) only [e183_184, e183_187, e183_188, e183_190, e183_193, e183_196, e183_197, e183_198, e183_199, e183_200, e183_203, e183_204, e183_205, e183_208, e183_209, e183_212, e183_213, ↓reduceIte, gM_0, a_94, inb_n, ix_n, if_true, ne_eq, Nat.reduceEqDiff, not_false_eq_true, vM, clK_s, tl_s, tl_n, clr_i, clr_n, clr_a, nI_add, bI_0, Bool.true_eq_false, Bool.false_eq_true, not_true_eq_false, not_false_eq_true, if_false, reduceCtorEq, s41, gM_21, pM_21, e21, hsub, a1, rz_1, rB]
                  · rw [if_neg c5] at q2
                    cases Option.some.inj q2
                    rw [decide_eq_false c5] at s41
                    refine ⟨σ2, ?_, y2'.tr g2, g3.2.1.1⟩
                    simp (disch := omega) only [e183_184, e183_187, e183_188, e183_190, e183_193, e183_196, e183_197, ↓reduceIte, gM_0, a_94, inb_n, ix_n, if_true, ne_eq, Nat.reduceEqDiff, not_false_eq_true, vM, clK_s, tl_s, tl_n, clr_i, clr_n, clr_a, nI_add, bI_0, Bool.true_eq_false, Bool.false_eq_true, not_true_eq_false, not_false_eq_true, if_false, reduceCtorEq, s41, rz_0, rB]
              · rw [if_neg c4] at hF
                cases Option.some.inj hF
                refine ⟨σ, ?_, KF.rf, k1⟩
                by_cases a0 : sgn tp s.1 = 40
                · rw [decide_eq_true a0] at s40
                  have hn8 : dp = 8 := by
                    rcases Nat.lt_or_ge dp 8 with q | q
                    · exact absurd ⟨a0, q⟩ c4
                    · omega
                  have e21 : σ 93 21 = nI 8 := by rw [hS.2.2.1, hn8]
                  simp (disch := omega) only [e183_145, e183_146, e183_148, e183_151, e183_154, e183_155, e183_158, e183_160, e183_163, e183_164, ↓reduceIte, gM_0, a_94, inb_n, ix_n, if_true, ne_eq, Nat.reduceEqDiff, not_false_eq_true, vM, clK_s, tl_s, tl_n, clr_i, clr_n, clr_a, nI_add, s40, bI_0, Bool.true_eq_false, Bool.false_eq_true, not_true_eq_false, not_false_eq_true, if_false, reduceCtorEq, gM_21, e21, not_true_eq_false, rz_0, rB]
                · rw [decide_eq_false a0] at s40
                  simp (disch := omega) only [e183_145, e183_146, e183_148, e183_151, e183_154, e183_155, e183_158, e183_160, e183_163, e183_164, ↓reduceIte, gM_0, a_94, inb_n, ix_n, if_true, ne_eq, Nat.reduceEqDiff, not_false_eq_true, vM, clK_s, tl_s, tl_n, clr_i, clr_n, clr_a, nI_add, s40, bI_0, Bool.true_eq_false, Bool.false_eq_true, not_true_eq_false, not_false_eq_true, if_false, reduceCtorEq, rz_0, rB]
      · refine ⟨fun hq => by omega, fun _ D w hD => ?_⟩
        obtain ⟨D, rfl⟩ : ∃ d, D = d + 1 := ⟨D - 1, by omega⟩
        unfold PF at hF
        rw [if_neg h5, if_neg h6] at hF
        have hT := hS.2.1
        by_cases c1 : lvS (m - 6) (sgn tp s.1) = true
        · rw [if_pos c1] at hF
          obtain ⟨o1, o2, o3, o4⟩ := lvS_ok c1
          obtain ⟨k3, k4⟩ := sgn_3 (tp := tp) (tk := s.1) (by omega)
          obtain ⟨x1, x2, x3⟩ := hW.nx (show s.1.1 ≠ 0 by omega)
          obtain ⟨σ1, y1, y2, y3⟩ := k_nx (E := E) (D := D) (by omega) hS hW.1 (show s.1.1 ≠ 0 by omega) (tkR_o (by omega))
          have e65 : m - 6 + 1 = m - 5 := by omega
          rcases bnd_r hF with ⟨pz, q1, q⟩ | ⟨s1, q1, q2⟩
          · obtain ⟨σ2, g1, g2, g3⟩ := (ih _ _ _ _ _ σ1 (by omega) q1 x1 hnt hdp y3).1 (by omega) D (by omega)
            rw [q, k_lpA (by omega) hS.1 hT hW.1 c1 y1 (by rw [e65]; exact g1)]
            exact ⟨σ2, rfl, y2.tr g2, g3⟩
          · obtain ⟨σ2, g1, g2, g3⟩ := (ih _ _ _ _ _ σ1 (by omega) q1 x1 hnt hdp y3).1 (by omega) D (by omega)
            obtain ⟨t1, t2, t3, t4, t5, l1, t6⟩ := PF_b _ _ _ _ _ _ (by omega) q1 x1
            have e1 : (nxS tp n s).2 = s.2 := rfl
            rw [e1] at t2
            have t4 := t4 (by omega)
            have l96 := hW.2.1
            have hl : s1.2.1.length < s1.1.2.1 := by omega
            have t0 := t1.1.1
            have a1 := k_step (E := E) (D := D) (wz := 2) (xv := nI (sgn tp s.1)) g3.2.2.2.2.1 g3.2.2.2.2.2.1 (show s1.2.1.length < 96 by omega) hL
            have b1 := KS.ad (pp := (2, nI (sgn tp s.1))) g3
            have fr := KF.ad (pp := (2, nI (sgn tp s.1))) (y2.tr g2) (show s1.2.1.length < 96 by omega)
            rw [k_lpB (by omega) hS.1 hT hW.1 c1 y1 (by rw [e65]; exact g1) a1]
            by_cases h8 : m = 8
            · rw [if_pos h8] at q2
              cases Option.some.inj q2
              rw [if_pos (by omega)]
              exact ⟨_, rfl, fr, b1⟩
            · rw [if_neg h8] at q2
              rw [if_neg (by omega)]
              exact RK.tr fr ((ih _ _ _ _ _ _ (by omega) q2 (t1.ad hl) hnt hdp b1).2 (by omega) (D + 1) _ (by omega))
        · rw [if_neg c1] at hF
          cases Option.some.inj hF
          rw [k_lpN (by omega) hS.1 hT hW.1 (by cases hl : lvS (m - 6) (sgn tp s.1) with | false => rfl | true => exact absurd hl c1)]
          exact ⟨σ, rfl, KF.rf, hS⟩
end Kpf3
