/-! THE CLASS READS: levels and pieces -/
def RP (h n key : Nat) (tp : Nat → Nat) (nt dp : Nat) (r : Nat ⊕ PS) (σ : Nat → Nat → Int32) (X : Option aRs) : Prop := ∃ σ2, X = some (none, (shp, σ2)) ∧ Fr [34, h, h + 1] σ σ2 ∧ CO σ2 h n key tp nt dp r
section Cpf2
variable {E : aE} {n key : Nat} {tp : Nat → Nat} {h : Nat}
theorem RP.tr {nt dp : Nat} {r : Nat ⊕ PS} {σ σ1 : Nat → Nat → Int32} {X : Option aRs} (hf : Fr [34, h, h + 1] σ σ1) (hR : RP h n key tp nt dp r σ1 X) : RP h n key tp nt dp r σ X := by
  obtain ⟨σ2, g1, g2, g3⟩ := hR
  exact ⟨σ2, g1, hf.tr g2, g3⟩
theorem c_lpF {σ : Nat → Nat → Int32} {lv mv iv : Int32} {w5 : Option Value} {D : Nat} (h4 : σ 34 2 = nI 4) : Rn E (D + 1) 17 34 [some (.ref 34), some (.int lv), some (.ref h), some (.int mv), some (.int iv), w5] [] (shp, σ) = some (none, (shp, σ)) := by
  rw [e17_34]
  by_cases hq : mv ≤ iv
  · simp (disch := omega) only [e17_36, e17_37, e17_84, ↓reduceIte, inb_n, ix_n, if_true, ne_eq, Nat.reduceEqDiff, not_false_eq_true, clK_s, tl_s, tl_n, clr_i, clr_n, clr_a, nI_add, hq]
  · simp (disch := omega) only [e17_36, e17_37, e17_40, e17_41, e17_42, e17_45, e17_84, ↓reduceIte, inb_n, ix_n, if_true, ne_eq, Nat.reduceEqDiff, not_false_eq_true, clK_s, tl_s, tl_n, clr_i, clr_n, clr_a, nI_add, hq, vR, c_isSignOf4 h4, bI_f]
theorem c_lpN {σ : Nat → Nat → Int32} {lv : Nat} {mv iv : Int32} {w5 : Option Value} {D : Nat} {tk : Tk} (hD : 4 ≤ D) (hT : TP σ n tp) (hC : CT σ tk) (hw : tkW tp n tk) (h5 : lv < 5) (hl : lvS lv (sgn tp tk) = false) : Rn E (D + 1) 17 34 [some (.ref 34), some (.int (nI lv)), some (.ref h), some (.int mv), some (.int iv), w5] [] (shp, σ) = some (none, (shp, σ)) := by
  rw [e17_34]
  by_cases hq : mv ≤ iv
  · simp (disch := omega) only [e17_36, e17_37, e17_84, ↓reduceIte, inb_n, ix_n, if_true, ne_eq, Nat.reduceEqDiff, not_false_eq_true, clK_s, tl_s, tl_n, clr_i, clr_n, clr_a, nI_add, hq]
  · simp (disch := omega) only [e17_36, e17_37, e17_40, e17_41, e17_42, e17_45, e17_84, ↓reduceIte, inb_n, ix_n, if_true, ne_eq, Nat.reduceEqDiff, not_false_eq_true, clK_s, tl_s, tl_n, clr_i, clr_n, clr_a, nI_add, hq, vR, c_isSignOf hD hT hC hw h5, hl, bI_f]
theorem kod_2 {cv : Int32} : -cv = kodP key (2, cv) := rfl
theorem kod_33 : (-33 : Int32) = kodP key (2, nI 33) := by
  show (-33 : Int32) = -nI 33
  decide +kernel
/-- up to a level's loop -/
theorem c_lv0 {σ σ1 : Nat → Nat → Int32} {m D : Nat} (hm : m < 5) (g1 : Rn E D 17 0 [some (.ref 34), some (.int (nI (m + 1))), some (.ref h), none, none, none] [] (shp, σ) = some (none, (shp, σ1))) : Rn E (D + 1) 17 0 [some (.ref 34), some (.int (nI m)), some (.ref h), none, none, none] [] (shp, σ) = Rn E (D + 1) 17 34 [some (.ref 34), some (.int (nI m)), some (.ref h), some (.int (if m = 2 then nI 1 else nI 96)), some (.int (nI 0)), none] [] (shp, σ1) := by
  have hlt : nI m < nI 5 := nI_lt hm (by omega)
  by_cases h2 : m = 2
  · have h2' : nI m = nI 2 := by rw [h2]
    rw [if_pos h2]
    simp (disch := omega) only [e17_0, e17_1, e17_2, e17_5, e17_6, e17_7, e17_10, e17_11, e17_12, e17_13, e17_14, e17_15, e17_16, e17_19, e17_20, ↓reduceIte, inb_n, ix_n, if_true, ne_eq, Nat.reduceEqDiff, not_false_eq_true, clK_s, tl_s, tl_n, clr_i, clr_n, clr_a, nI_add, hlt, vR, g1]
    rw [e17_21, if_neg (fun z => z h2')]
    simp (disch := omega) only [e17_24, e17_25, e17_28, e17_30, e17_31, e17_32, ↓reduceIte, inb_n, ix_n, if_true, ne_eq, Nat.reduceEqDiff, not_false_eq_true, clK_s, tl_s, tl_n, clr_i, clr_n, clr_a, nI_add]
  · have h2' : ¬ nI m = nI 2 := fun z => h2 ((nI_eq (by omega) (by omega)).mp z)
    rw [if_neg h2]
    simp (disch := omega) only [e17_0, e17_1, e17_2, e17_5, e17_6, e17_7, e17_10, e17_11, e17_12, e17_13, e17_14, e17_15, e17_16, e17_19, e17_20, e17_21, e17_24, e17_25, e17_28, e17_30, e17_31, e17_32, ↓reduceIte, inb_n, ix_n, if_true, ne_eq, Nat.reduceEqDiff, not_false_eq_true, clK_s, tl_s, tl_n, clr_i, clr_n, clr_a, nI_add, hlt, vR, g1, h2']
theorem c_PF (hh : isW h) (hk : key < 3) : ∀ f m nt dp (s : PS) (r : Nat ⊕ PS) (σ : Nat → Nat → Int32), m ≤ 10 → PF tp n key f m nt dp s = some r → PW tp n s → nt ≤ 8 → dp ≤ 8 → CS σ h n key tp nt dp s →
    (m = 5 → ∀ D, pN nt dp ≤ D → RP h n key tp nt dp r σ (Rn E D 18 0 [some (.ref 34), some (.ref h)] [] (shp, σ))) ∧
    (m ≤ 5 → ∀ D, 6 - m + pN nt dp ≤ D → RP h n key tp nt dp r σ (Rn E D 17 0 [some (.ref 34), some (.int (nI m)), some (.ref h), none, none, none] [] (shp, σ))) ∧
    (5 < m → ∀ D i w5, 12 - m + pN nt dp ≤ D → (m = 8 → i = 0) → i ≤ s.1.2.1 → RP h n key tp nt dp r σ (Rn E D 17 34 [some (.ref 34), some (.int (nI (m - 6))), some (.ref h), some (.int (if m = 8 then nI 1 else nI 96)), some (.int (nI i)), w5] [] (shp, σ))) := by
  obtain ⟨b1, b2⟩ := isW_b hh
  intro f
  induction f with
  | zero => intro m nt dp s r σ _ hF; cases hF
  | succ f ih =>
    intro m nt dp s r σ h10 hF hW hnt hdp hS
    have h96 := hS.1.1
    have hpN : 5 ≤ pN nt dp := by unfold pN; omega
    by_cases h5 : m < 5
    · refine ⟨fun hq => by omega, fun _ D hD => ?_, fun hq => by omega⟩
      obtain ⟨D, rfl⟩ : ∃ d, D = d + 1 := ⟨D - 1, by omega⟩
      have hF0 := hF
      unfold PF at hF
      rw [if_pos h5] at hF
      rcases bnd_r hF with ⟨pz, q1, q⟩ | ⟨s1, q1, q2⟩
      · obtain ⟨σ1, g1, g2, g3⟩ := (ih _ _ _ _ _ σ (by omega) q1 hW hnt hdp hS).2.1 (by omega) D (by omega)
        rw [q, c_lv0 h5 g1, c_lpF g3.2.2.1]
        exact ⟨σ1, rfl, g2, g3⟩
      · obtain ⟨σ1, g1, g2, g3⟩ := (ih _ _ _ _ _ σ (by omega) q1 hW hnt hdp hS).2.1 (by omega) D (by omega)
        have hG := PF_b _ _ _ _ _ _ (by omega) q1 hW
        have := (ih _ _ _ _ _ σ1 (by omega) q2 hG.1 hnt hdp g3).2.2 (by omega) (D + 1) 0 none (by omega) (fun _ => rfl) (by omega)
        rw [show m + 6 - 6 = m by omega] at this
        rw [c_lv0 h5 g1]
        refine RP.tr g2 ?_
        by_cases h2 : m = 2
        · rw [if_pos h2]; rw [if_pos (by omega)] at this; exact this
        · rw [if_neg h2]; rw [if_neg (by omega)] at this; exact this
    · by_cases h6 : m = 5
      · have hP : ∀ D, pN nt dp ≤ D → RP h n key tp nt dp r σ (Rn E D 18 0 [some (.ref 34), some (.ref h)] [] (shp, σ)) := by
          intro D hD
          obtain ⟨D, rfl⟩ : ∃ d, D = d + 1 := ⟨D - 1, by omega⟩
          unfold PF at hF
          rw [if_neg h5, if_pos h6] at hF
          obtain ⟨k1, k2, k3⟩ := hS.2.1
          obtain ⟨w1, w2, w3, w4, w5, w6⟩ := hW.1
          have z12 : ¬ nI 1 = nI 2 := by decide +kernel
          by_cases c1 : isNu s
          · rw [if_pos c1] at hF
            cases Option.some.inj hF
            have hn := c_number (E := E) (D := D) hS.1 hS.2.1 hW.1 c1.1
            obtain ⟨σ2, g1, g2, g3⟩ := c_leaf (E := E) (D := D) (pp := (0, nI (nuF tp (s.1.2.2 - s.1.2.1) s.1.2.1 0))) hh (by omega) hS hW (by have := c1.1; omega) rfl
            have k1' : σ 34 2 = nI 2 := by rw [k1, c1.1]
            have c12 := c1.2
            have hle : ¬ nI 4 < nI (s.1.2.2 - s.1.2.1) := nI_nlt (by omega) (by omega)
            have hfb : s.1.2.1 ≤ s.1.2.2 := by have := c1.1; omega
            have g1' : Rn E D 19 0 [some (.ref 34), some (.ref h), some (.int (nI (nuF tp (s.1.2.2 - s.1.2.1) s.1.2.1 0)))] [] (shp, σ) = some (none, (shp, σ2)) := g1
            refine ⟨σ2, ?_, g2, g3⟩
            simp (disch := omega) only [e18_0, e18_1, e18_4, e18_5, e18_8, e18_9, e18_12, e18_13, e18_16, e18_17, e18_18, e18_21, e18_22, e18_23, e18_24, e18_27, e18_30, e18_201, ↓reduceIte, inb_n, ix_n, if_true, ne_eq, Nat.reduceEqDiff, not_false_eq_true, clK_s, tl_s, tl_n, clr_i, clr_n, clr_a, nI_add, gR_2, gR_3, gR_4, k1', k2, k3, not_true_eq_false, pk_sub, hle, vR, hn, g1']
          · rw [if_neg c1] at hF
            by_cases c2 : isNa tp key s
            · rw [if_pos c2] at hF
              cases Option.some.inj hF
              obtain ⟨v1, v2⟩ := w6 c2.1
              have hn := c_nameOf (E := E) (D := D) (by omega) hS.1 hS.2.1 hW.1 c2.1 hk
              rw [if_pos c2.2.1] at hn
              obtain ⟨r1, r2⟩ := (ix_nm key hk (tp s.1.2.1) (by omega)).2 c2.2.2
              obtain ⟨σ2, g1, g2, g3⟩ := c_leaf (E := E) (D := D) (pp := (1, nI (tp s.1.2.1))) (cv := nmX key (nI (tp s.1.2.1))) hh (by omega) hS hW (by have := c2.1; omega) rfl
              have k1' : σ 34 2 = nI 1 := by rw [k1, c2.1]
              refine ⟨σ2, ?_, g2, g3⟩
              simp (disch := omega) only [e18_0, e18_1, e18_4, e18_5, e18_33, e18_34, e18_37, e18_38, e18_41, e18_42, e18_43, e18_46, e18_49, e18_52, e18_53, e18_54, e18_55, e18_56, e18_57, e18_60, e18_63, e18_64, e18_67, e18_201, ↓reduceIte, inb_n, ix_n, if_true, ne_eq, Nat.reduceEqDiff, not_false_eq_true, clK_s, tl_s, tl_n, clr_i, clr_n, clr_a, nI_add, gR_2, k1', z12, not_true_eq_false, vR, gW_2 hh, hS.2.2.2.2.2.2.1, hn, r1, r2, g1]
            · rw [if_neg c2] at hF
              have h70 : Rn E (D + 1) 18 0 [some (.ref 34), some (.ref h)] [] (shp, σ) = Rn E (D + 1) 18 70 [some (.ref 34), some (.ref h)] [] (shp, σ) := by
                by_cases a1 : s.1.1 = 2
                · have k1' : σ 34 2 = nI 2 := by rw [k1, a1]
                  have z21 : ¬ nI 2 = nI 1 := by decide +kernel
                  have hgt : 4 < s.1.2.2 - s.1.2.1 := by
                    rcases Nat.lt_or_ge 4 (s.1.2.2 - s.1.2.1) with q | q
                    · exact q
                    · exact absurd ⟨a1, q⟩ c1
                  have hle : nI 4 < nI (s.1.2.2 - s.1.2.1) := nI_lt hgt (by omega)
                  simp (disch := omega) only [e18_0, e18_1, e18_4, e18_5, e18_8, e18_9, e18_12, e18_13, e18_16, e18_17, e18_18, e18_33, e18_34, e18_37, e18_38, ↓reduceIte, inb_n, ix_n, if_true, ne_eq, Nat.reduceEqDiff, not_false_eq_true, clK_s, tl_s, tl_n, clr_i, clr_n, clr_a, nI_add, gR_2, gR_3, gR_4, k1', k2, k3, not_true_eq_false, pk_sub, hle, z21]
                · have a1' : ¬ nI s.1.1 = nI 2 := fun z => a1 ((nI_eq (by omega) (by omega)).mp z)
                  by_cases a2 : s.1.1 = 1
                  · have k1' : σ 34 2 = nI 1 := by rw [k1, a2]
                    obtain ⟨v1, v2⟩ := w6 a2
                    have hn := c_nameOf (E := E) (D := D) (by omega) hS.1 hS.2.1 hW.1 a2 hk
                    have hneg : (if s.1.2.2 = s.1.2.1 + 1 then ixN (sX (1018 + key)) (nI (tp s.1.2.1)) 0 else (-1)) = (-1) := by
                      by_cases a3 : s.1.2.2 = s.1.2.1 + 1
                      · rw [if_pos a3]
                        refine (ix_nm key hk (tp s.1.2.1) (by omega)).1 ?_
                        cases hq : nmK key (tp s.1.2.1) with
                        | false => rfl
                        | true => exact absurd ⟨a2, a3, hq⟩ c2
                      · rw [if_neg a3]
                    rw [hneg] at hn
                    have zm : (-1 : Int32) < nI 0 := by decide +kernel
                    simp (disch := omega) only [e18_0, e18_1, e18_4, e18_5, e18_33, e18_34, e18_37, e18_38, e18_41, e18_42, e18_43, e18_46, e18_49, ↓reduceIte, inb_n, ix_n, if_true, ne_eq, Nat.reduceEqDiff, not_false_eq_true, clK_s, tl_s, tl_n, clr_i, clr_n, clr_a, nI_add, gR_2, k1', z12, not_true_eq_false, vR, gW_2 hh, hS.2.2.2.2.2.2.1, hn, zm]
                  · have a2' : ¬ nI s.1.1 = nI 1 := fun z => a2 ((nI_eq (by omega) (by omega)).mp z)
                    simp (disch := omega) only [e18_0, e18_1, e18_4, e18_5, e18_33, e18_34, e18_37, e18_38, ↓reduceIte, inb_n, ix_n, if_true, ne_eq, Nat.reduceEqDiff, not_false_eq_true, clK_s, tl_s, tl_n, clr_i, clr_n, clr_a, nI_add, gR_2, k1, a1', a2']
              rw [h70]
              by_cases c3 : sgn tp s.1 = 33 ∧ nt < 8
              · rw [if_pos c3] at hF
                obtain ⟨c31, c32⟩ := c3
                have k0 := (sgn_3 (tp := tp) (tk := s.1) (by omega)).1
                have sg : decide (sgn tp s.1 = 33) = true := decide_eq_true c31
                have hn8 : ¬ 8 ≤ nt := by omega
                obtain ⟨x1, x2, x3⟩ := hW.nx (show s.1.1 ≠ 0 by omega)
                have hS1 := hS.turn (k := nt + 1) hh
                obtain ⟨σ1, y1, y2, y3⟩ := c_nx (E := E) (D := D) hh (by omega) hS1 hW
                have hpp : pN (nt + 1) dp ≤ D := by unfold pN at hD ⊢; omega
                have hgo : ∀ (σ2 : Nat → Nat → Int32), Rn E D 18 0 [some (.ref 34), some (.ref h)] [] (shp, σ1) = some (none, (shp, σ2)) → Rn E (D + 1) 18 70 [some (.ref 34), some (.ref h)] [] (shp, σ) = Rn E (D + 1) 18 117 [some (.ref 34), some (.ref h)] [] (shp, su σ2 34 7 (σ2 34 7 - nI 1)) := by
                  intro σ2 hq
                  simp (disch := omega) only [e18_70, e18_71, e18_73, e18_76, e18_79, e18_80, e18_83, e18_85, e18_88, e18_89, e18_90, e18_93, e18_94, e18_95, e18_98, e18_99, e18_102, e18_103, e18_104, e18_107, e18_108, e18_109, e18_112, e18_113, e18_114, ↓reduceIte, inb_n, ix_n, if_true, ne_eq, Nat.reduceEqDiff, not_false_eq_true, clK_s, tl_s, tl_n, clr_i, clr_n, clr_a, nI_add, vR, c_isSign (E := E) (D := D) hS.1 hS.2.1 hW.1 (show 0 < 33 by omega) (show 33 < 128 by omega), sg, bI_0, Bool.true_eq_false, Bool.false_eq_true, not_true_eq_false, not_false_eq_true, if_false, reduceCtorEq, gR_7, pR_7, hS.2.2.2.1, nI_leI, hn8, y1, hq]
                have hgo2 : ∀ (σ2 σ3 : Nat → Nat → Int32), Rn E D 28 0 [some (.ref h), some (.int (-33))] [] (shp, σ2) = some (none, (shp, σ3)) → Rn E (D + 1) 18 117 [some (.ref 34), some (.ref h)] [] (shp, σ2) = some (none, (shp, σ3)) := by
                  intro σ2 σ3 hq
                  simp (disch := omega) only [e18_117, e18_118, e18_120, e18_123, e18_201, ↓reduceIte, inb_n, ix_n, if_true, ne_eq, Nat.reduceEqDiff, not_false_eq_true, clK_s, tl_s, tl_n, clr_i, clr_n, clr_a, nI_add, vW hh, hq]
                have y2' : Fr [34, h, h + 1] σ σ1 := Fr.tr (Fr.rf.su (by simp)) y2
                rcases bnd_r hF with ⟨pz, q1, q⟩ | ⟨s1, q1, q2⟩
                · obtain ⟨σ2, g1, g2, g3⟩ := (ih _ _ _ _ _ σ1 (by omega) q1 x1 (by omega) hdp y3).1 rfl D hpp
                  obtain ⟨σ3, a1, a2, a3⟩ := c_adF (E := E) (D := D) (cv := (-33)) hh (CFl.f34 (k := 7) (xv := σ2 34 7 - nI 1) hh g3 (Or.inr rfl))
                  rw [q, hgo _ g1, hgo2 _ _ a1]
                  exact ⟨σ3, rfl, ((y2'.tr g2).su (by simp)).tr a2, a3⟩
                · obtain ⟨σ2, g1, g2, g3⟩ := (ih _ _ _ _ _ σ1 (by omega) q1 x1 (by omega) hdp y3).1 rfl D hpp
                  obtain ⟨t1, t2, t3, t4, t5, l1, t6⟩ := PF_b _ _ _ _ _ _ (by omega) q1 x1
                  have e1 : (nxS tp n s).2 = s.2 := rfl
                  rw [e1] at t2
                  have t4 := t4 (by omega)
                  have hl : s1.2.1.length < s1.1.2.1 := by have := hW.2.1; omega
                  have t0 := t1.1.1
                  have e7 : σ2 34 7 - nI 1 = nI nt := by rw [g3.2.2.2.1, pk_sub (by omega)]; rfl
                  have g4 := CS.turn (k := nt) hh g3
                  have a1 := c_adds (E := E) (D := D) (cv := (-33)) hh g4.2.2.2.2.2.1 (by omega)
                  have a3 := CS.ad (pp := (2, nI 33)) hh g4 kod_33
                  rw [hgo _ g1, e7, hgo2 _ _ a1]
                  cases Option.some.inj q2
                  exact ⟨_, rfl, (((y2'.tr g2).su (by simp)).su (by simp)).su (by simp), a3⟩
              · rw [if_neg c3] at hF
                have h126 : Rn E (D + 1) 18 70 [some (.ref 34), some (.ref h)] [] (shp, σ) = Rn E (D + 1) 18 126 [some (.ref 34), some (.ref h)] [] (shp, σ) := by
                  by_cases a1 : sgn tp s.1 = 33
                  · have sg : decide (sgn tp s.1 = 33) = true := decide_eq_true a1
                    have hn8 : 8 ≤ nt := by
                      rcases Nat.lt_or_ge nt 8 with q | q
                      · exact absurd ⟨a1, q⟩ c3
                      · exact q
                    simp (disch := omega) only [e18_70, e18_71, e18_73, e18_76, e18_79, e18_80, e18_83, e18_85, ↓reduceIte, inb_n, ix_n, if_true, ne_eq, Nat.reduceEqDiff, not_false_eq_true, clK_s, tl_s, tl_n, clr_i, clr_n, clr_a, nI_add, vR, c_isSign (E := E) (D := D) hS.1 hS.2.1 hW.1 (show 0 < 33 by omega) (show 33 < 128 by omega), sg, bI_0, Bool.true_eq_false, Bool.false_eq_true, not_true_eq_false, not_false_eq_true, if_false, reduceCtorEq, gR_7, hS.2.2.2.1, nI_leI, hn8]
                  · have sg : decide (sgn tp s.1 = 33) = false := decide_eq_false a1
                    simp (disch := omega) only [e18_70, e18_71, e18_73, e18_76, ↓reduceIte, inb_n, ix_n, if_true, ne_eq, Nat.reduceEqDiff, not_false_eq_true, clK_s, tl_s, tl_n, clr_i, clr_n, clr_a, nI_add, vR, c_isSign (E := E) (D := D) hS.1 hS.2.1 hW.1 (show 0 < 33 by omega) (show 33 < 128 by omega), sg, bI_0, Bool.true_eq_false, Bool.false_eq_true, not_true_eq_false, not_false_eq_true, if_false, reduceCtorEq]
                rw [h126]
                by_cases c4 : sgn tp s.1 = 40 ∧ dp < 8
                · rw [if_pos c4] at hF
                  obtain ⟨c41, c42⟩ := c4
                  have k0 := (sgn_3 (tp := tp) (tk := s.1) (by omega)).1
                  have sg : decide (sgn tp s.1 = 40) = true := decide_eq_true c41
                  have hn8 : ¬ 8 ≤ dp := by omega
                  obtain ⟨x1, x2, x3⟩ := hW.nx (show s.1.1 ≠ 0 by omega)
                  have hS1 := hS.brk (k := dp + 1) hh
                  obtain ⟨σ1, y1, y2, y3⟩ := c_nx (E := E) (D := D) hh (by omega) hS1 hW
                  have hpp : 6 - 0 + pN nt (dp + 1) ≤ D := by unfold pN at hD ⊢; omega
                  have hgo : ∀ (σ2 : Nat → Nat → Int32), Rn E D 17 0 [some (.ref 34), some (.int (nI 0)), some (.ref h), none, none, none] [] (shp, σ1) = some (none, (shp, σ2)) → Rn E (D + 1) 18 126 [some (.ref 34), some (.ref h)] [] (shp, σ) = Rn E (D + 1) 18 174 [some (.ref 34), some (.ref h)] [] (shp, su σ2 34 6 (σ2 34 6 - nI 1)) := by
                    intro σ2 hq
                    simp (disch := omega) only [e18_126, e18_127, e18_129, e18_132, e18_135, e18_136, e18_139, e18_141, e18_144, e18_145, e18_146, e18_149, e18_150, e18_151, e18_154, e18_155, e18_158, e18_159, e18_160, e18_161, e18_164, e18_165, e18_166, e18_169, e18_170, e18_171, ↓reduceIte, inb_n, ix_n, if_true, ne_eq, Nat.reduceEqDiff, not_false_eq_true, clK_s, tl_s, tl_n, clr_i, clr_n, clr_a, nI_add, vR, c_isSign (E := E) (D := D) hS.1 hS.2.1 hW.1 (show 0 < 40 by omega) (show 40 < 128 by omega), sg, bI_0, Bool.true_eq_false, Bool.false_eq_true, not_true_eq_false, not_false_eq_true, if_false, reduceCtorEq, gR_6, pR_6, hS.2.2.2.2.1, nI_leI, hn8, y1, hq]
                  have y2' : Fr [34, h, h + 1] σ σ1 := Fr.tr (Fr.rf.su (by simp)) y2
                  rcases bnd_r hF with ⟨pz, q1, q⟩ | ⟨s1, q1, q2⟩
                  · obtain ⟨σ2, g1, g2, g3⟩ := (ih _ _ _ _ _ σ1 (by omega) q1 x1 hnt (by omega) y3).2.1 (by omega) D hpp
                    have hp96 : pz ≤ 96 := by have := PF_f _ _ _ _ _ _ (by omega) q1 x1; omega
                    have f4 := CFl.f34 (k := 6) (xv := σ2 34 6 - nI 1) hh g3 (Or.inl rfl)
                    obtain ⟨σ3, a1, a2, a3⟩ := c_flF (E := E) (D := D) hh hp96 f4
                    rw [q, hgo _ g1]
                    refine ⟨σ3, ?_, ((y2'.tr g2).su (by simp)).tr a2, a3⟩
                    simp (disch := omega) only [e18_174, e18_175, e18_177, e18_180, e18_183, e18_184, e18_187, e18_190, e18_191, e18_194, e18_201, ↓reduceIte, inb_n, ix_n, if_true, ne_eq, Nat.reduceEqDiff, not_false_eq_true, clK_s, tl_s, tl_n, clr_i, clr_n, clr_a, nI_add, vR, c_isSign4 f4.2.2.1, bI_f, a1]
                  · obtain ⟨σ2, g1, g2, g3⟩ := (ih _ _ _ _ _ σ1 (by omega) q1 x1 hnt (by omega) y3).2.1 (by omega) D hpp
                    have hG := (PF_b _ _ _ _ _ _ (by omega) q1 x1).1
                    have e7 : σ2 34 6 - nI 1 = nI dp := by rw [g3.2.2.2.2.1, pk_sub (by omega)]; rfl
                    have g4 := CS.brk (k := dp) hh g3
                    rw [hgo _ g1, e7]
                    by_cases c5 : sgn tp s1.1 = 41
                    · rw [if_pos c5] at q2
                      cases Option.some.inj q2
                      have sg1 : decide (sgn tp s1.1 = 41) = true := decide_eq_true c5
                      obtain ⟨σ3, a1, a2, a3⟩ := c_nx (E := E) (D := D) hh (by omega) g4 hG
                      refine ⟨σ3, ?_, ((y2'.tr g2).su (by simp)).tr a2, a3⟩
                      simp (disch := omega) only [e18_174, e18_175, e18_177, e18_180, e18_183, e18_184, e18_187, e18_201, ↓reduceIte, inb_n, ix_n, if_true, ne_eq, Nat.reduceEqDiff, not_false_eq_true, clK_s, tl_s, tl_n, clr_i, clr_n, clr_a, nI_add, vR, c_isSign (E := E) (D := D) g4.1 g4.2.1 hG.1 (show 0 < 41 by omega) (show 41 < 128 by omega), sg1, bI_0, Bool.true_eq_false, Bool.false_eq_true, not_true_eq_false, not_false_eq_true, if_false, reduceCtorEq, a1]
                    · rw [if_neg c5] at q2
                      cases Option.some.inj q2
                      have sg1 : decide (sgn tp s1.1 = 41) = false := decide_eq_false c5
                      obtain ⟨σ3, a1, a2, a3⟩ := c_fl (E := E) (D := D) hh g4 hG
                      refine ⟨σ3, ?_, ((y2'.tr g2).su (by simp)).tr a2, a3⟩
                      simp (disch := omega) only [e18_174, e18_175, e18_177, e18_180, e18_183, e18_184, e18_187, e18_190, e18_191, e18_194, e18_201, ↓reduceIte, inb_n, ix_n, if_true, ne_eq, Nat.reduceEqDiff, not_false_eq_true, clK_s, tl_s, tl_n, clr_i, clr_n, clr_a, nI_add, vR, c_isSign (E := E) (D := D) g4.1 g4.2.1 hG.1 (show 0 < 41 by omega) (show 41 < 128 by omega), sg1, bI_0, Bool.true_eq_false, Bool.false_eq_true, not_true_eq_false, not_false_eq_true, if_false, reduceCtorEq, a1]
                · rw [if_neg c4] at hF
                  cases Option.some.inj hF
                  obtain ⟨σ3, a1, a2, a3⟩ := c_fl (E := E) (D := D) hh hS hW
                  refine ⟨σ3, ?_, a2, a3⟩
                  by_cases a0 : sgn tp s.1 = 40
                  · have sg : decide (sgn tp s.1 = 40) = true := decide_eq_true a0
                    have hn8 : 8 ≤ dp := by
                      rcases Nat.lt_or_ge dp 8 with q | q
                      · exact absurd ⟨a0, q⟩ c4
                      · exact q
                    simp (disch := omega) only [e18_126, e18_127, e18_129, e18_132, e18_135, e18_136, e18_139, e18_141, e18_197, e18_198, e18_201, ↓reduceIte, inb_n, ix_n, if_true, ne_eq, Nat.reduceEqDiff, not_false_eq_true, clK_s, tl_s, tl_n, clr_i, clr_n, clr_a, nI_add, vR, c_isSign (E := E) (D := D) hS.1 hS.2.1 hW.1 (show 0 < 40 by omega) (show 40 < 128 by omega), sg, bI_0, Bool.true_eq_false, Bool.false_eq_true, not_true_eq_false, not_false_eq_true, if_false, reduceCtorEq, gR_6, hS.2.2.2.2.1, nI_leI, hn8, a1]
                  · have sg : decide (sgn tp s.1 = 40) = false := decide_eq_false a0
                    simp (disch := omega) only [e18_126, e18_127, e18_129, e18_132, e18_197, e18_198, e18_201, ↓reduceIte, inb_n, ix_n, if_true, ne_eq, Nat.reduceEqDiff, not_false_eq_true, clK_s, tl_s, tl_n, clr_i, clr_n, clr_a, nI_add, vR, c_isSign (E := E) (D := D) hS.1 hS.2.1 hW.1 (show 0 < 40 by omega) (show 40 < 128 by omega), sg, bI_0, Bool.true_eq_false, Bool.false_eq_true, not_true_eq_false, not_false_eq_true, if_false, reduceCtorEq, a1]
        refine ⟨fun _ => hP, fun _ D hD => ?_, fun hq => by omega⟩
        obtain ⟨D, rfl⟩ : ∃ d, D = d + 1 := ⟨D - 1, by omega⟩
        obtain ⟨σ1, g1, g2, g3⟩ := hP D (by omega)
        have hlt : ¬ nI 5 < nI 5 := nI_nlt (by omega) (by omega)
        refine ⟨σ1, ?_, g2, g3⟩
        rw [h6]
        simp (disch := omega) only [e17_0, e17_1, e17_2, e17_5, e17_6, e17_7, e17_10, ↓reduceIte, inb_n, ix_n, if_true, ne_eq, Nat.reduceEqDiff, not_false_eq_true, clK_s, tl_s, tl_n, clr_i, clr_n, clr_a, nI_add, hlt, vR, g1]
      · refine ⟨fun hq => by omega, fun hq => by omega, fun _ D i w5 hD hi0 hi => ?_⟩
        obtain ⟨D, rfl⟩ : ∃ d, D = d + 1 := ⟨D - 1, by omega⟩
        unfold PF at hF
        rw [if_neg h5, if_neg h6] at hF
        by_cases c1 : lvS (m - 6) (sgn tp s.1) = true
        · rw [if_pos c1] at hF
          obtain ⟨o1, o2, o3, o4⟩ := lvS_ok c1
          obtain ⟨k3, k4⟩ := sgn_3 (tp := tp) (tk := s.1) (by omega)
          obtain ⟨x1, x2, x3⟩ := hW.nx (show s.1.1 ≠ 0 by omega)
          obtain ⟨σ1, y1, y2, y3⟩ := c_nx (E := E) (D := D) hh (by omega) hS hW
          have hlt : ¬ (if m = 8 then nI 1 else nI 96) ≤ nI i := by
            by_cases h8 : m = 8
            · rw [if_pos h8, hi0 h8]; decide +kernel
            · rw [if_neg h8, nI_leI (by omega) (by omega)]; omega
          obtain ⟨hb, eb⟩ := hS.1.at (show s.1.2.1 < n by omega)
          have eb' : σ 35 s.1.2.1 = nI (sgn tp s.1) := by rw [eb, k4]; exact s8_n _ (by omega)
          have hgo : ∀ (σ2 : Nat → Nat → Int32), Rn E D 17 0 [some (.ref 34), some (.int (nI (m - 6 + 1))), some (.ref h), none, none, none] [] (shp, σ1) = some (none, (shp, σ2)) → Rn E (D + 1) 17 34 [some (.ref 34), some (.int (nI (m - 6))), some (.ref h), some (.int (if m = 8 then nI 1 else nI 96)), some (.int (nI i)), w5] [] (shp, σ) = Rn E (D + 1) 17 71 [some (.ref 34), some (.int (nI (m - 6))), some (.ref h), some (.int (if m = 8 then nI 1 else nI 96)), some (.int (nI i)), some (.int (nI (sgn tp s.1)))] [] (shp, σ2) := by
            intro σ2 hq
            generalize (if m = 8 then nI 1 else nI 96) = mv at hlt
            rw [e17_34]
            simp (disch := omega) only [e17_36, e17_37, e17_40, e17_41, e17_42, e17_45, e17_48, e17_49, e17_52, e17_53, e17_56, e17_57, e17_59, e17_60, e17_63, e17_64, e17_65, e17_66, e17_67, e17_68, ↓reduceIte, inb_n, ix_n, if_true, ne_eq, Nat.reduceEqDiff, not_false_eq_true, clK_s, tl_s, tl_n, clr_i, clr_n, clr_a, nI_add, hlt, vR, c_isSignOf (E := E) (D := D) (lv := m - 6) (by omega) hS.1 hS.2.1 hW.1 (by omega), c1, bI_0, Bool.true_eq_false, Bool.false_eq_true, not_true_eq_false, not_false_eq_true, if_false, reduceCtorEq, gR_0, gR_3, hS.2.1.2.1, b_35, eb', y1, hq]
          have hgo2 : ∀ (σ2 σ3 : Nat → Nat → Int32), Rn E D 28 0 [some (.ref h), some (.int (-nI (sgn tp s.1)))] [] (shp, σ2) = some (none, (shp, σ3)) → Rn E (D + 1) 17 71 [some (.ref 34), some (.int (nI (m - 6))), some (.ref h), some (.int (if m = 8 then nI 1 else nI 96)), some (.int (nI i)), some (.int (nI (sgn tp s.1)))] [] (shp, σ2) = Rn E (D + 1) 17 34 [some (.ref 34), some (.int (nI (m - 6))), some (.ref h), some (.int (if m = 8 then nI 1 else nI 96)), some (.int (nI (i + 1))), some (.int (nI (sgn tp s.1)))] [] (shp, σ3) := by
            intro σ2 σ3 hq
            generalize (if m = 8 then nI 1 else nI 96) = mv
            simp (disch := omega) only [e17_71, e17_72, e17_74, e17_75, e17_78, e17_81, ↓reduceIte, inb_n, ix_n, if_true, ne_eq, Nat.reduceEqDiff, not_false_eq_true, clK_s, tl_s, tl_n, clr_i, clr_n, clr_a, nI_add, vW hh, hq]
          have e65 : m - 6 + 1 = m - 5 := by omega
          rw [e65] at hgo
          rcases bnd_r hF with ⟨pz, q1, q⟩ | ⟨s1, q1, q2⟩
          · obtain ⟨σ2, g1, g2, g3⟩ := (ih _ _ _ _ _ σ1 (by omega) q1 x1 hnt hdp y3).2.1 (by omega) D (by omega)
            obtain ⟨σ3, a1, a2, a3⟩ := c_adF (E := E) (D := D) (cv := -nI (sgn tp s.1)) hh g3
            rw [q, hgo _ g1, hgo2 _ _ a1, c_lpF a3.2.2.1]
            exact ⟨σ3, rfl, (y2.tr g2).tr a2, a3⟩
          · obtain ⟨σ2, g1, g2, g3⟩ := (ih _ _ _ _ _ σ1 (by omega) q1 x1 hnt hdp y3).2.1 (by omega) D (by omega)
            obtain ⟨t1, t2, t3, t4, t5, l1, t6⟩ := PF_b _ _ _ _ _ _ (by omega) q1 x1
            have e1 : (nxS tp n s).2 = s.2 := rfl
            rw [e1] at t2
            have t4 := t4 (by omega)
            have hl : s1.2.1.length < s1.1.2.1 := by have := hW.2.1; omega
            have t0 := t1.1.1
            have a1 := c_adds (E := E) (D := D) (cv := -nI (sgn tp s.1)) hh g3.2.2.2.2.2.1 (by omega)
            have a3 := CS.ad (pp := (2, nI (sgn tp s.1))) hh g3 kod_2
            have a2 : Fr [34, h, h + 1] σ2 (su (su σ2 (h + 1) s1.2.1.length (-nI (sgn tp s.1))) h 1 (nI (s1.2.1.length + 1))) := (Fr.rf.su (by simp)).su (by simp)
            rw [hgo _ g1, hgo2 _ _ a1]
            refine RP.tr ((y2.tr g2).tr a2) ?_
            by_cases h8 : m = 8
            · rw [if_pos h8] at q2
              cases Option.some.inj q2
              have h0 := hi0 h8
              refine ⟨_, ?_, Fr.rf, a3⟩
              have h1 : nI 1 ≤ nI (i + 1) := by rw [h0]; decide +kernel
              rw [if_pos h8, e17_34]
              simp (disch := omega) only [e17_36, e17_37, e17_84, ↓reduceIte, inb_n, ix_n, if_true, ne_eq, Nat.reduceEqDiff, not_false_eq_true, clK_s, tl_s, tl_n, clr_i, clr_n, clr_a, nI_add, h1]
            · rw [if_neg h8] at q2
              exact (ih _ _ _ _ _ _ (by omega) q2 (t1.ad hl) hnt hdp a3).2.2 (by omega) (D + 1) (i + 1) _ (by omega) (fun z => absurd z h8) (by show i + 1 ≤ s1.1.2.1; omega)
        · rw [if_neg c1] at hF
          cases Option.some.inj hF
          rw [c_lpN (by omega) hS.1 hS.2.1 hW.1 (by omega) (by cases hl : lvS (m - 6) (sgn tp s.1) with | false => rfl | true => exact absurd hl c1)]
          exact ⟨σ, rfl, Fr.rf, hS⟩
end Cpf2
