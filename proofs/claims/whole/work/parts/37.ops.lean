/-! OPERATIONS on people -/
theorem WFp_f {A : Tn} {kz j : Nat} {xv : Int32} (hW : WFp A) (hj : j ≠ 1) (h0 : j = 0 → ∃ cz, cz < 6 ∧ xv = nI cz) (h2 : j = 2 → rg 0 200 xv = true) (h3 : j = 3 → rg 0 50 xv = true) (h4 : j = 4 → rg (-1) 7 xv = true) : WFp (tnF A kz j xv) := by
  obtain ⟨g1, g2, g3, g4⟩ := hW
  have hne : ∀ a, tF (tnF A kz j xv) a 1 = tF A a 1 := fun a => if_neg (fun z => hj z.2.symm)
  have hq : ∀ a b, tF (tnF A kz j xv) a b = if a = kz ∧ b = j then xv else tF A a b := fun _ _ => rfl
  refine ⟨g1, ?_, ?_, ?_⟩
  · intro a ha
    obtain ⟨b1, b2, b3, b4, b5⟩ := g2 a ha
    refine ⟨by rw [hne]; exact b1, ?_, ?_, ?_, ?_⟩
    · rw [hq]; split
      · rename_i z; exact h0 z.2.symm
      · exact b2
    · rw [hq]; split
      · rename_i z; exact h2 z.2.symm
      · exact b3
    · rw [hq]; split
      · rename_i z; exact h3 z.2.symm
      · exact b4
    · rw [hq]; split
      · rename_i z; exact h4 z.2.symm
      · exact b5
  · intro i j hi hj
    rw [hne, hne]; exact g3 i j hi hj
  · intro a ha
    rw [hne]; exact g4 a ha
section Ops2
variable {E : aE} {d : Nat} {σ : Nat → Nat → Int32} {A B : Tn} {im : Bool}
theorem fr94 {σ1 : Nat → Nat → Int32} {i : Nat} {xv : Int32} : QT σ1 (su σ1 94 i xv) := fun a ha => su_row (by omega)
theorem ft_r {h i : Nat} {xv : Int32} (h1 : 36 ≤ h) (h2 : h < 46) : QT σ (su σ h i xv) := fun a ha => su_row (by omega)
theorem op_as {xv yv : Int32} (hI : INV σ A B im) : OK2 σ (Rn E (d + 50) 53 0 [some (.ref 0), some (.int xv), some (.int yv)] []) (Rn E (d + 50) 135 0 [some (.ref 93), some (.int xv), some (.int yv)] []) := by
  obtain ⟨⟨hC, hM, hW, hX, hc, hR⟩, _⟩ := id hI
  have h8 := hW.1
  cases ho : hasB A xv with
  | false =>
    refine ok_read (vv := (-1000000001)) hI ?_ ?_
    · simp (disch := omega) only [e53_0, e53_1, e53_4, e53_5, e53_8, e53_11, e53_12, e53_13, e53_14, e53_17, e53_20, e53_22, e53_23, e53_24, e53_27, e53_30, e53_31, e53_32, e53_33, e53_36, e53_39, e53_40, e53_43, e53_46, e53_47, e53_48, e53_51, e53_53, ↓reduceIte, inb_n, ix_n, if_true, ne_eq, Nat.reduceEqDiff, not_false_eq_true, clK_s, tl_s, tl_n, clr_i, clr_n, clr_a, nI_add, gX_2, gT_0 t36, gT_1 t36, gT_2 t36, gT_3 t36, gT_4 t36, gT_5 t36, gT_6 t36, gT_7 t36, gT_8 t36, gT_9 t36, gT_10 t36, gT_11 t36, gT_12 t36, gT_13 t36, gT_14 t36, gT_15 t36, gT_16 t36, gT_17 t36, pT_10 t36, pT_11 t36, pT_12 t36, pT_13 t36, pT_14 t36, pT_15 t36, pT_16 t36, pT_17 t36, aT_1 t36, aT_2 t36, aT_3 t36, aT_4 t36, aT_5 t36, aT_6 t36, aT_7 t36, aT_8 t36, aT_9 t36, sT_1 t36, sT_2 t36, sT_3 t36, sT_4 t36, sT_5 t36, sT_6 t36, sT_7 t36, sT_8 t36, sT_9 t36, vT t36, c_has t36 hC h8, ho, bI_0, Bool.true_eq_false, Bool.false_eq_true, not_true_eq_false, not_false_eq_true, if_false, reduceCtorEq]
    · simp (disch := omega) only [e135_0, e135_1, e135_2, e135_5, e135_8, e135_9, e135_10, e135_11, e135_14, e135_17, e135_20, e135_22, e135_23, e135_24, e135_25, e135_26, e135_29, e135_30, e135_33, e135_36, e135_37, e135_38, e135_39, e135_42, e135_45, e135_47, ↓reduceIte, gM_0, a_94, inb_n, ix_n, if_true, ne_eq, Nat.reduceEqDiff, not_false_eq_true, vM, clK_s, tl_s, tl_n, clr_i, clr_n, clr_a, nI_add, k_isOne hM h8, ho, bI_0, Bool.true_eq_false, Bool.false_eq_true, not_true_eq_false, not_false_eq_true, if_false, reduceCtorEq]
  | true =>
    obtain ⟨kz, hk, rfl⟩ := hasB_ex ho
    cases hb : rg 0 5 yv with
    | false =>
      refine ok_read (vv := (-1000000001)) hI ?_ ?_
      · simp (disch := omega) only [e53_0, e53_1, e53_4, e53_5, e53_8, e53_11, e53_12, e53_13, e53_14, e53_17, e53_20, e53_22, e53_23, e53_24, e53_27, e53_30, e53_31, e53_32, e53_33, e53_36, e53_39, e53_40, e53_43, e53_46, e53_47, e53_48, e53_51, e53_53, ↓reduceIte, inb_n, ix_n, if_true, ne_eq, Nat.reduceEqDiff, not_false_eq_true, clK_s, tl_s, tl_n, clr_i, clr_n, clr_a, nI_add, gX_2, gT_0 t36, gT_1 t36, gT_2 t36, gT_3 t36, gT_4 t36, gT_5 t36, gT_6 t36, gT_7 t36, gT_8 t36, gT_9 t36, gT_10 t36, gT_11 t36, gT_12 t36, gT_13 t36, gT_14 t36, gT_15 t36, gT_16 t36, gT_17 t36, pT_10 t36, pT_11 t36, pT_12 t36, pT_13 t36, pT_14 t36, pT_15 t36, pT_16 t36, pT_17 t36, aT_1 t36, aT_2 t36, aT_3 t36, aT_4 t36, aT_5 t36, aT_6 t36, aT_7 t36, aT_8 t36, aT_9 t36, sT_1 t36, sT_2 t36, sT_3 t36, sT_4 t36, sT_5 t36, sT_6 t36, sT_7 t36, sT_8 t36, sT_9 t36, vT t36, c_has t36 hC h8, ho, c_isWithin, tI_0, tI_1, tI_2, tI_3, tI_4, tI_5, tI_6, tI_7, tI_8, tI_19, tI_20, tI_23, tI_24, tI_29, tI_30, tI_48, tI_50, tI_57, tI_60, tI_97, tI_100, tI_122, tI_200, tI_99999, tI_m1, tI_m99999, hb, bI_0, Bool.true_eq_false, Bool.false_eq_true, not_true_eq_false, not_false_eq_true, if_false, reduceCtorEq]
      · simp (disch := omega) only [e135_0, e135_1, e135_2, e135_5, e135_8, e135_9, e135_10, e135_11, e135_14, e135_17, e135_20, e135_22, e135_23, e135_24, e135_25, e135_26, e135_29, e135_30, e135_33, e135_36, e135_37, e135_38, e135_39, e135_42, e135_45, e135_47, ↓reduceIte, gM_0, a_94, inb_n, ix_n, if_true, ne_eq, Nat.reduceEqDiff, not_false_eq_true, vM, clK_s, tl_s, tl_n, clr_i, clr_n, clr_a, nI_add, k_isOne hM h8, ho, k_in, rgL_c, tL_0, tL_1, tL_2, tL_3, tL_4, tL_5, tL_6, tL_7, tL_8, tL_19, tL_30, tL_48, tL_50, tL_57, tL_60, tL_97, tL_100, tL_122, tL_200, tL_99999, tL_m1, tL_m99999, hb, bI_0, Bool.true_eq_false, Bool.false_eq_true, not_true_eq_false, not_false_eq_true, if_false, reduceCtorEq]
    | true =>
      obtain ⟨cz, hc6, rfl⟩ := rg_e (n := 5) rfl hb
      obtain ⟨oz, ho6, eo⟩ := (hW.2.1 kz hk).2.1
      have p0 : σ (36 + 1) kz = nI oz := by rw [hC.k0 hk, eo]
      have p2 := hC.k2 hk
      have f0 : σ 94 (10 + 5 * kz + 0) = nI oz := by rw [hM.2.1 kz hk 0 (by omega), eo]
      have f2 := hM.2.1 kz hk 2 (by omega)
      refine ok_read (vv := if unB oz cz = true then tF A kz 2 else (-1000000012)) hI ?_ ?_
      · simp (disch := omega) only [e53_0, e53_1, e53_4, e53_5, e53_8, e53_11, e53_12, e53_13, e53_14, e53_17, e53_20, e53_22, e53_23, e53_24, e53_27, e53_30, e53_31, e53_32, e53_33, e53_36, e53_39, e53_40, e53_43, e53_46, e53_47, e53_48, e53_51, e53_53, ↓reduceIte, inb_n, ix_n, if_true, ne_eq, Nat.reduceEqDiff, not_false_eq_true, clK_s, tl_s, tl_n, clr_i, clr_n, clr_a, nI_add, gX_2, gT_0 t36, gT_1 t36, gT_2 t36, gT_3 t36, gT_4 t36, gT_5 t36, gT_6 t36, gT_7 t36, gT_8 t36, gT_9 t36, gT_10 t36, gT_11 t36, gT_12 t36, gT_13 t36, gT_14 t36, gT_15 t36, gT_16 t36, gT_17 t36, pT_10 t36, pT_11 t36, pT_12 t36, pT_13 t36, pT_14 t36, pT_15 t36, pT_16 t36, pT_17 t36, aT_1 t36, aT_2 t36, aT_3 t36, aT_4 t36, aT_5 t36, aT_6 t36, aT_7 t36, aT_8 t36, aT_9 t36, sT_1 t36, sT_2 t36, sT_3 t36, sT_4 t36, sT_5 t36, sT_6 t36, sT_7 t36, sT_8 t36, sT_9 t36, vT t36, c_has t36 hC h8, ho, c_isWithin, tI_0, tI_1, tI_2, tI_3, tI_4, tI_5, tI_6, tI_7, tI_8, tI_19, tI_20, tI_23, tI_24, tI_29, tI_30, tI_48, tI_50, tI_57, tI_60, tI_97, tI_100, tI_122, tI_200, tI_99999, tI_m1, tI_m99999, hb, bI_0, Bool.true_eq_false, Bool.false_eq_true, not_true_eq_false, not_false_eq_true, if_false, reduceCtorEq, p0, c_isUnder ho6 (show cz < 6 by omega), p2]
        cases unB oz cz <;> simp
      · simp (disch := omega) only [e135_0, e135_1, e135_2, e135_5, e135_8, e135_9, e135_10, e135_11, e135_14, e135_17, e135_20, e135_22, e135_23, e135_24, e135_25, e135_26, e135_29, e135_30, e135_33, e135_36, e135_37, e135_38, e135_39, e135_42, e135_45, e135_47, ↓reduceIte, gM_0, a_94, inb_n, ix_n, if_true, ne_eq, Nat.reduceEqDiff, not_false_eq_true, vM, clK_s, tl_s, tl_n, clr_i, clr_n, clr_a, nI_add, k_isOne hM h8, ho, k_in, rgL_c, tL_0, tL_1, tL_2, tL_3, tL_4, tL_5, tL_6, tL_7, tL_8, tL_19, tL_30, tL_48, tL_50, tL_57, tL_60, tL_97, tL_100, tL_122, tL_200, tL_99999, tL_m1, tL_m99999, hb, bI_0, Bool.true_eq_false, Bool.false_eq_true, not_true_eq_false, not_false_eq_true, if_false, reduceCtorEq, k_of, f0, f2, k_isOf ho6 (show cz < 6 by omega)]
        cases unB oz cz <;> simp
theorem op_turns {xv yv : Int32} (hI : INV σ A B im) : OK2 σ (Rn E (d + 50) 54 0 [some (.ref 0), some (.int xv), some (.int yv), none] []) (Rn E (d + 50) 136 0 [some (.ref 93), some (.int xv), some (.int yv)] []) := by
  obtain ⟨⟨hC, hM, hW, hX, hc, hR⟩, _⟩ := id hI
  have h8 := hW.1
  cases ho : hasB A xv with
  | false =>
    refine ok_read (vv := (-1000000001)) hI ?_ ?_
    · simp (disch := omega) only [e54_0, e54_1, e54_4, e54_5, e54_8, e54_11, e54_12, e54_13, e54_14, e54_17, e54_20, e54_22, e54_23, e54_24, e54_27, e54_30, e54_31, e54_32, e54_33, e54_34, e54_37, e54_40, e54_41, e54_42, e54_43, e54_44, ↓reduceIte, inb_n, ix_n, if_true, ne_eq, Nat.reduceEqDiff, not_false_eq_true, clK_s, tl_s, tl_n, clr_i, clr_n, clr_a, nI_add, gX_2, gT_0 t36, gT_1 t36, gT_2 t36, gT_3 t36, gT_4 t36, gT_5 t36, gT_6 t36, gT_7 t36, gT_8 t36, gT_9 t36, gT_10 t36, gT_11 t36, gT_12 t36, gT_13 t36, gT_14 t36, gT_15 t36, gT_16 t36, gT_17 t36, pT_10 t36, pT_11 t36, pT_12 t36, pT_13 t36, pT_14 t36, pT_15 t36, pT_16 t36, pT_17 t36, aT_1 t36, aT_2 t36, aT_3 t36, aT_4 t36, aT_5 t36, aT_6 t36, aT_7 t36, aT_8 t36, aT_9 t36, sT_1 t36, sT_2 t36, sT_3 t36, sT_4 t36, sT_5 t36, sT_6 t36, sT_7 t36, sT_8 t36, sT_9 t36, vT t36, c_has t36 hC h8, ho, bI_0, Bool.true_eq_false, Bool.false_eq_true, not_true_eq_false, not_false_eq_true, if_false, reduceCtorEq]
    · simp (disch := omega) only [e136_0, e136_1, e136_2, e136_5, e136_8, e136_9, e136_10, e136_11, e136_14, e136_17, e136_20, e136_21, e136_23, e136_24, e136_25, e136_26, e136_27, e136_28, e136_31, e136_34, e136_36, ↓reduceIte, gM_0, a_94, inb_n, ix_n, if_true, ne_eq, Nat.reduceEqDiff, not_false_eq_true, vM, clK_s, tl_s, tl_n, clr_i, clr_n, clr_a, nI_add, k_isOne hM h8, ho, bI_0, Bool.true_eq_false, Bool.false_eq_true, not_true_eq_false, not_false_eq_true, if_false, reduceCtorEq]
  | true =>
    obtain ⟨kz, hk, rfl⟩ := hasB_ex ho
    cases hb : rg 0 5 yv with
    | false =>
      refine ok_read (vv := (-1000000001)) hI ?_ ?_
      · simp (disch := omega) only [e54_0, e54_1, e54_4, e54_5, e54_8, e54_11, e54_12, e54_13, e54_14, e54_17, e54_20, e54_22, e54_23, e54_24, e54_27, e54_30, e54_31, e54_32, e54_33, e54_34, e54_37, e54_40, e54_41, e54_42, e54_43, e54_44, ↓reduceIte, inb_n, ix_n, if_true, ne_eq, Nat.reduceEqDiff, not_false_eq_true, clK_s, tl_s, tl_n, clr_i, clr_n, clr_a, nI_add, gX_2, gT_0 t36, gT_1 t36, gT_2 t36, gT_3 t36, gT_4 t36, gT_5 t36, gT_6 t36, gT_7 t36, gT_8 t36, gT_9 t36, gT_10 t36, gT_11 t36, gT_12 t36, gT_13 t36, gT_14 t36, gT_15 t36, gT_16 t36, gT_17 t36, pT_10 t36, pT_11 t36, pT_12 t36, pT_13 t36, pT_14 t36, pT_15 t36, pT_16 t36, pT_17 t36, aT_1 t36, aT_2 t36, aT_3 t36, aT_4 t36, aT_5 t36, aT_6 t36, aT_7 t36, aT_8 t36, aT_9 t36, sT_1 t36, sT_2 t36, sT_3 t36, sT_4 t36, sT_5 t36, sT_6 t36, sT_7 t36, sT_8 t36, sT_9 t36, vT t36, c_has t36 hC h8, ho, c_isWithin, tI_0, tI_1, tI_2, tI_3, tI_4, tI_5, tI_6, tI_7, tI_8, tI_19, tI_20, tI_23, tI_24, tI_29, tI_30, tI_48, tI_50, tI_57, tI_60, tI_97, tI_100, tI_122, tI_200, tI_99999, tI_m1, tI_m99999, hb, bI_0, Bool.true_eq_false, Bool.false_eq_true, not_true_eq_false, not_false_eq_true, if_false, reduceCtorEq]
      · simp (disch := omega) only [e136_0, e136_1, e136_2, e136_5, e136_8, e136_9, e136_10, e136_11, e136_14, e136_17, e136_20, e136_21, e136_23, e136_24, e136_25, e136_26, e136_27, e136_28, e136_31, e136_34, e136_36, ↓reduceIte, gM_0, a_94, inb_n, ix_n, if_true, ne_eq, Nat.reduceEqDiff, not_false_eq_true, vM, clK_s, tl_s, tl_n, clr_i, clr_n, clr_a, nI_add, k_isOne hM h8, ho, k_in, rgL_c, tL_0, tL_1, tL_2, tL_3, tL_4, tL_5, tL_6, tL_7, tL_8, tL_19, tL_30, tL_48, tL_50, tL_57, tL_60, tL_97, tL_100, tL_122, tL_200, tL_99999, tL_m1, tL_m99999, hb, bI_0, Bool.true_eq_false, Bool.false_eq_true, not_true_eq_false, not_false_eq_true, if_false, reduceCtorEq]
    | true =>
      obtain ⟨cz, hc6, ec⟩ := rg_e (n := 5) rfl hb
      have p0 := hC.k0 hk
      have hCn : CR (su σ (36 + 1) kz yv) 36 (tnF A kz 0 yv) := CR_f (j := 0) hC hk (by omega) (by omega)
      have f0 : su σ (36 + 1) kz yv 94 (10 + 5 * kz) = tF A kz 0 := by rw [su_row (by omega)]; exact hM.2.1 kz hk 0 (by omega)
      refine ⟨tF A kz 0, su σ (36 + 1) kz yv, su (su σ (36 + 1) kz yv) 94 (10 + 5 * kz) yv, tnF A kz 0 yv, B, im, ?_, ?_, hI.q ((ft_r (by omega) (by omega)).tr fr94) (hCn.ext (fun a h1 h2 _ => su_row (by omega))) ?_ (WFp_f hW (by omega) (fun _ => ⟨cz, by omega, ec⟩) (by omega) (by omega) (by omega)) hc rfl⟩
      · simp (disch := omega) only [e54_0, e54_1, e54_4, e54_5, e54_8, e54_11, e54_12, e54_13, e54_14, e54_17, e54_20, e54_22, e54_23, e54_24, e54_27, e54_30, e54_31, e54_32, e54_33, e54_34, e54_37, e54_40, e54_41, e54_42, e54_43, e54_44, ↓reduceIte, inb_n, ix_n, if_true, ne_eq, Nat.reduceEqDiff, not_false_eq_true, clK_s, tl_s, tl_n, clr_i, clr_n, clr_a, nI_add, gX_2, gT_0 t36, gT_1 t36, gT_2 t36, gT_3 t36, gT_4 t36, gT_5 t36, gT_6 t36, gT_7 t36, gT_8 t36, gT_9 t36, gT_10 t36, gT_11 t36, gT_12 t36, gT_13 t36, gT_14 t36, gT_15 t36, gT_16 t36, gT_17 t36, pT_10 t36, pT_11 t36, pT_12 t36, pT_13 t36, pT_14 t36, pT_15 t36, pT_16 t36, pT_17 t36, aT_1 t36, aT_2 t36, aT_3 t36, aT_4 t36, aT_5 t36, aT_6 t36, aT_7 t36, aT_8 t36, aT_9 t36, sT_1 t36, sT_2 t36, sT_3 t36, sT_4 t36, sT_5 t36, sT_6 t36, sT_7 t36, sT_8 t36, sT_9 t36, vT t36, c_has t36 hC h8, ho, c_isWithin, tI_0, tI_1, tI_2, tI_3, tI_4, tI_5, tI_6, tI_7, tI_8, tI_19, tI_20, tI_23, tI_24, tI_29, tI_30, tI_48, tI_50, tI_57, tI_60, tI_97, tI_100, tI_122, tI_200, tI_99999, tI_m1, tI_m99999, hb, bI_0, Bool.true_eq_false, Bool.false_eq_true, not_true_eq_false, not_false_eq_true, if_false, reduceCtorEq, p0]
      · have hM1 : MR (su σ (36 + 1) kz yv 94) A := by rw [su_row (by omega)]; exact hM
        simp (disch := omega) only [e136_0, e136_1, e136_2, e136_5, e136_8, e136_9, e136_10, e136_11, e136_14, e136_17, e136_20, e136_21, e136_23, e136_24, e136_25, e136_26, e136_27, e136_28, e136_31, e136_34, e136_36, ↓reduceIte, gM_0, a_94, inb_n, ix_n, if_true, ne_eq, Nat.reduceEqDiff, not_false_eq_true, vM, clK_s, tl_s, tl_n, clr_i, clr_n, clr_a, nI_add, k_isOne hM1 h8, ho, k_in, rgL_c, tL_0, tL_1, tL_2, tL_3, tL_4, tL_5, tL_6, tL_7, tL_8, tL_19, tL_30, tL_48, tL_50, tL_57, tL_60, tL_97, tL_100, tL_122, tL_200, tL_99999, tL_m1, tL_m99999, hb, bI_0, Bool.true_eq_false, Bool.false_eq_true, not_true_eq_false, not_false_eq_true, if_false, reduceCtorEq, pk_mul, k_changes, f0]
      · rw [su_rf, su_row (by omega)]
        exact MR_f (jz := 0) hM h8 hk (by omega)
def vlB (wv yv : Int32) : Bool := if wv = nI 2 then rg 0 200 yv else if wv = nI 3 then rg 0 50 yv else if wv = nI 4 then rg (-1) 7 yv else false
theorem L2 {az bz : Nat} (h1 : az < 200) (h2 : bz < 200) : (nI az = nI bz ↔ az = bz) := nI_eq (by omega) (by omega)
theorem c_isValue {S : aSt} {wv yv : Int32} : Rn E (d + 1) 99 0 [some (.int wv), some (.int yv)] [] S = some (some (.int (bI (vlB wv yv))), S) := by
  by_cases h2 : wv = nI 2
  · subst h2; rw [c_isValue2]; unfold vlB; rw [if_pos rfl]
  · by_cases h3 : wv = nI 3
    · subst h3; rw [c_isValue3]; unfold vlB; rw [if_neg h2, if_pos rfl]
    · by_cases h4 : wv = nI 4
      · subst h4; rw [c_isValue4]; unfold vlB; rw [if_neg h2, if_neg h3, if_pos rfl]
      · rw [e99_0, e99_1]
        unfold vlB
        rw [if_neg h2, if_neg h3, if_neg h4]
        show (if wv = nI 2 then _ else if wv = nI 3 then _ else if wv = nI 4 then _ else _) = _
        rw [if_neg h2, if_neg h3, if_neg h4]
        simp only [swZ, e99_53, e99_54, rz_0]
theorem k_set_1 {S : aSt} {xv wv yv : Int32} : Rn E (d + 1) 137 0 [some (.ref 93), some (.int xv), some (.int wv), some (.int yv), none] [] S = Rn E (d + 1) 137 58 [some (.ref 93), some (.int xv), some (.int wv), some (.int yv), none] [.int (bI (vlB wv yv))] S := by
  unfold vlB
  by_cases h2 : wv = nI 2
  · subst h2
    simp only [e137_0, e137_1, e137_2, e137_5, e137_6, e137_7, e137_8, e137_11, e137_14, e137_17, e137_18, e137_19, e137_22, e137_23, e137_24, e137_25, e137_28, e137_31, e137_34, e137_35, e137_36, e137_39, e137_40, e137_41, e137_44, e137_47, e137_50, e137_53, e137_54, e137_57, ↓reduceIte, gM_0, a_94, inb_n, ix_n, if_true, ne_eq, Nat.reduceEqDiff, not_false_eq_true, vM, clK_s, tl_s, tl_n, clr_i, clr_n, clr_a, nI_add, k_in, rgL_c, tL_0, tL_1, tL_2, tL_3, tL_4, tL_5, tL_6, tL_7, tL_8, tL_19, tL_30, tL_48, tL_50, tL_57, tL_60, tL_97, tL_100, tL_122, tL_200, tL_99999, tL_m1, tL_m99999, not_true_eq_false, if_false]
  · by_cases h3 : wv = nI 3
    · subst h3
      simp only [e137_0, e137_1, e137_2, e137_5, e137_6, e137_7, e137_8, e137_11, e137_14, e137_17, e137_18, e137_19, e137_22, e137_23, e137_24, e137_25, e137_28, e137_31, e137_34, e137_35, e137_36, e137_39, e137_40, e137_41, e137_44, e137_47, e137_50, e137_53, e137_54, e137_57, ↓reduceIte, gM_0, a_94, inb_n, ix_n, if_true, ne_eq, Nat.reduceEqDiff, not_false_eq_true, vM, clK_s, tl_s, tl_n, clr_i, clr_n, clr_a, nI_add, k_in, rgL_c, tL_0, tL_1, tL_2, tL_3, tL_4, tL_5, tL_6, tL_7, tL_8, tL_19, tL_30, tL_48, tL_50, tL_57, tL_60, tL_97, tL_100, tL_122, tL_200, tL_99999, tL_m1, tL_m99999, h2, not_true_eq_false, if_false]
    · by_cases h4 : wv = nI 4
      · subst h4
        simp only [e137_0, e137_1, e137_2, e137_5, e137_6, e137_7, e137_8, e137_11, e137_14, e137_17, e137_18, e137_19, e137_22, e137_23, e137_24, e137_25, e137_28, e137_31, e137_34, e137_35, e137_36, e137_39, e137_40, e137_41, e137_44, e137_47, e137_50, e137_53, e137_54, e137_57, ↓reduceIte, gM_0, a_94, inb_n, ix_n, if_true, ne_eq, Nat.reduceEqDiff, not_false_eq_true, vM, clK_s, tl_s, tl_n, clr_i, clr_n, clr_a, nI_add, k_in, rgL_c, tL_0, tL_1, tL_2, tL_3, tL_4, tL_5, tL_6, tL_7, tL_8, tL_19, tL_30, tL_48, tL_50, tL_57, tL_60, tL_97, tL_100, tL_122, tL_200, tL_99999, tL_m1, tL_m99999, h2, h3, not_true_eq_false, if_false]
        cases rg (-1) 7 yv <;> simp [bI, n10]
      · simp only [e137_0, e137_1, e137_2, e137_5, e137_6, e137_7, e137_8, e137_11, e137_14, e137_17, e137_18, e137_19, e137_22, e137_23, e137_24, e137_25, e137_28, e137_31, e137_34, e137_35, e137_36, e137_39, e137_40, e137_41, e137_44, e137_47, e137_50, e137_53, e137_54, e137_57, ↓reduceIte, gM_0, a_94, inb_n, ix_n, if_true, ne_eq, Nat.reduceEqDiff, not_false_eq_true, vM, clK_s, tl_s, tl_n, clr_i, clr_n, clr_a, nI_add, h2, h3, h4, if_false]
        rfl
theorem op_set {xv wv yv : Int32} (hI : INV σ A B im) : OK2 σ (Rn E (d + 50) 55 0 [some (.ref 0), some (.int xv), some (.int wv), some (.int yv), none, none] []) (Rn E (d + 50) 137 0 [some (.ref 93), some (.int xv), some (.int wv), some (.int yv), none] []) := by
  obtain ⟨⟨hC, hM, hW, hX, hc, hR⟩, _⟩ := id hI
  have h8 := hW.1
  cases ho : hasB A xv with
  | false =>
    refine ok_read (vv := (-1000000001)) hI ?_ ?_
    · simp (disch := omega) only [e55_0, e55_1, e55_4, e55_5, e55_8, e55_11, e55_12, e55_13, e55_16, e55_19, e55_21, e55_22, e55_23, e55_24, e55_27, e55_28, e55_31, e55_34, e55_37, e55_38, e55_39, e55_42, e55_43, e55_46, e55_49, e55_52, e55_53, e55_56, e55_59, e55_61, e55_63, e55_64, e55_65, e55_67, e55_69, e55_70, e55_71, e55_72, e55_74, ↓reduceIte, inb_n, ix_n, if_true, ne_eq, Nat.reduceEqDiff, not_false_eq_true, clK_s, tl_s, tl_n, clr_i, clr_n, clr_a, nI_add, gX_2, gT_0 t36, gT_1 t36, gT_2 t36, gT_3 t36, gT_4 t36, gT_5 t36, gT_6 t36, gT_7 t36, gT_8 t36, gT_9 t36, gT_10 t36, gT_11 t36, gT_12 t36, gT_13 t36, gT_14 t36, gT_15 t36, gT_16 t36, gT_17 t36, pT_10 t36, pT_11 t36, pT_12 t36, pT_13 t36, pT_14 t36, pT_15 t36, pT_16 t36, pT_17 t36, aT_1 t36, aT_2 t36, aT_3 t36, aT_4 t36, aT_5 t36, aT_6 t36, aT_7 t36, aT_8 t36, aT_9 t36, sT_1 t36, sT_2 t36, sT_3 t36, sT_4 t36, sT_5 t36, sT_6 t36, sT_7 t36, sT_8 t36, sT_9 t36, vT t36, c_has t36 hC h8, ho, bI_0, Bool.true_eq_false, Bool.false_eq_true, not_true_eq_false, not_false_eq_true, if_false, reduceCtorEq]
    · rw [k_set_1]
      simp (disch := omega) only [e137_58, e137_60, e137_61, e137_62, e137_65, e137_68, e137_70, e137_73, e137_74, e137_76, e137_77, e137_78, e137_79, e137_80, e137_81, e137_82, e137_83, e137_86, e137_89, e137_91, ↓reduceIte, gM_0, a_94, inb_n, ix_n, if_true, ne_eq, Nat.reduceEqDiff, not_false_eq_true, vM, clK_s, tl_s, tl_n, clr_i, clr_n, clr_a, nI_add, k_isOne hM h8, ho, bI_0, Bool.true_eq_false, Bool.false_eq_true, not_true_eq_false, not_false_eq_true, if_false, reduceCtorEq]
  | true =>
    obtain ⟨kz, hk, rfl⟩ := hasB_ex ho
    cases hb : vlB wv yv with
    | false =>
      refine ok_read (vv := (-1000000001)) hI ?_ ?_
      · simp (disch := omega) only [e55_0, e55_1, e55_4, e55_5, e55_8, e55_11, e55_12, e55_13, e55_16, e55_19, e55_21, e55_22, e55_23, e55_24, e55_27, e55_28, e55_31, e55_34, e55_37, e55_38, e55_39, e55_42, e55_43, e55_46, e55_49, e55_52, e55_53, e55_56, e55_59, e55_61, e55_63, e55_64, e55_65, e55_67, e55_69, e55_70, e55_71, e55_72, e55_74, ↓reduceIte, inb_n, ix_n, if_true, ne_eq, Nat.reduceEqDiff, not_false_eq_true, clK_s, tl_s, tl_n, clr_i, clr_n, clr_a, nI_add, gX_2, gT_0 t36, gT_1 t36, gT_2 t36, gT_3 t36, gT_4 t36, gT_5 t36, gT_6 t36, gT_7 t36, gT_8 t36, gT_9 t36, gT_10 t36, gT_11 t36, gT_12 t36, gT_13 t36, gT_14 t36, gT_15 t36, gT_16 t36, gT_17 t36, pT_10 t36, pT_11 t36, pT_12 t36, pT_13 t36, pT_14 t36, pT_15 t36, pT_16 t36, pT_17 t36, aT_1 t36, aT_2 t36, aT_3 t36, aT_4 t36, aT_5 t36, aT_6 t36, aT_7 t36, aT_8 t36, aT_9 t36, sT_1 t36, sT_2 t36, sT_3 t36, sT_4 t36, sT_5 t36, sT_6 t36, sT_7 t36, sT_8 t36, sT_9 t36, vT t36, c_has t36 hC h8, ho, c_isValue, hb, bI_0, Bool.true_eq_false, Bool.false_eq_true, not_true_eq_false, not_false_eq_true, if_false, reduceCtorEq]
      · rw [k_set_1]
        simp (disch := omega) only [e137_58, e137_60, e137_61, e137_62, e137_65, e137_68, e137_70, e137_73, e137_74, e137_76, e137_77, e137_78, e137_79, e137_80, e137_81, e137_82, e137_83, e137_86, e137_89, e137_91, ↓reduceIte, gM_0, a_94, inb_n, ix_n, if_true, ne_eq, Nat.reduceEqDiff, not_false_eq_true, vM, clK_s, tl_s, tl_n, clr_i, clr_n, clr_a, nI_add, k_isOne hM h8, ho, hb, bI_0, Bool.true_eq_false, Bool.false_eq_true, not_true_eq_false, not_false_eq_true, if_false, reduceCtorEq]
    | true =>
      have hone : ∀ j, 2 ≤ j → j < 5 → wv = nI j → WFp (tnF A kz j yv) → (Rn E (d + 50) 55 0 [some (.ref 0), some (.int (nI kz)), some (.int wv), some (.int yv), none, none] [] (shp, σ) = some (some (.int (tF A kz j)), (shp, su σ (36 + 1 + j) kz yv))) → OK2 σ (Rn E (d + 50) 55 0 [some (.ref 0), some (.int (nI kz)), some (.int wv), some (.int yv), none, none] []) (Rn E (d + 50) 137 0 [some (.ref 93), some (.int (nI kz)), some (.int wv), some (.int yv), none] []) := by
        intro j j1 j2 hw hWn hcl
        have hCn : CR (su σ (36 + 1 + j) kz yv) 36 (tnF A kz j yv) := CR_f hC hk j2 (by omega)
        have f0 : su σ (36 + 1 + j) kz yv 94 (10 + 5 * kz + j) = tF A kz j := by rw [su_row (by omega)]; exact hM.2.1 kz hk j j2
        refine ⟨tF A kz j, su σ (36 + 1 + j) kz yv, su (su σ (36 + 1 + j) kz yv) 94 (10 + 5 * kz + j) yv, tnF A kz j yv, B, im, hcl, ?_, hI.q ((ft_r (by omega) (by omega)).tr fr94) (hCn.ext (fun a h1 h2 _ => su_row (by omega))) ?_ hWn hc rfl⟩
        · have hM1 : MR (su σ (36 + 1 + j) kz yv 94) A := by rw [su_row (by omega)]; exact hM
          rw [k_set_1, hw]
          rw [hw] at hb
          simp (disch := omega) only [e137_58, e137_60, e137_61, e137_62, e137_65, e137_68, e137_70, e137_73, e137_74, e137_76, e137_77, e137_78, e137_79, e137_80, e137_81, e137_82, e137_83, e137_86, e137_89, e137_91, ↓reduceIte, gM_0, a_94, inb_n, ix_n, if_true, ne_eq, Nat.reduceEqDiff, not_false_eq_true, vM, clK_s, tl_s, tl_n, clr_i, clr_n, clr_a, nI_add, k_isOne hM1 h8, ho, hb, bI_0, Bool.true_eq_false, Bool.false_eq_true, not_true_eq_false, not_false_eq_true, if_false, reduceCtorEq, pk_mul, k_changes, f0]
        · rw [su_rf, su_row (by omega)]
          exact MR_f hM h8 hk j2
      unfold vlB at hb
      have p2 := hC.k2 hk
      have p3 := hC.k3 hk
      have p4 := hC.k4 hk
      have n2 := nT_3 t36
      by_cases h2 : wv = nI 2
      · rw [if_pos h2] at hb
        refine hone 2 (by omega) (by omega) h2 (WFp_f hW (by omega) (by omega) (fun _ => hb) (by omega) (by omega)) ?_
        subst h2
        have hb2 : vlB (nI 2) yv = true := by unfold vlB; rw [if_pos rfl]; exact hb
        simp (disch := omega) only [e55_0, e55_1, e55_4, e55_5, e55_8, e55_11, e55_12, e55_13, e55_16, e55_19, e55_21, e55_22, e55_23, e55_24, e55_27, e55_28, e55_31, e55_34, e55_37, e55_38, e55_39, e55_42, e55_43, e55_46, e55_49, e55_52, e55_53, e55_56, e55_59, e55_61, e55_63, e55_64, e55_65, e55_67, e55_69, e55_70, e55_71, e55_72, e55_74, ↓reduceIte, inb_n, ix_n, if_true, ne_eq, Nat.reduceEqDiff, not_false_eq_true, clK_s, tl_s, tl_n, clr_i, clr_n, clr_a, nI_add, gX_2, gT_0 t36, gT_1 t36, gT_2 t36, gT_3 t36, gT_4 t36, gT_5 t36, gT_6 t36, gT_7 t36, gT_8 t36, gT_9 t36, gT_10 t36, gT_11 t36, gT_12 t36, gT_13 t36, gT_14 t36, gT_15 t36, gT_16 t36, gT_17 t36, pT_10 t36, pT_11 t36, pT_12 t36, pT_13 t36, pT_14 t36, pT_15 t36, pT_16 t36, pT_17 t36, aT_1 t36, aT_2 t36, aT_3 t36, aT_4 t36, aT_5 t36, aT_6 t36, aT_7 t36, aT_8 t36, aT_9 t36, sT_1 t36, sT_2 t36, sT_3 t36, sT_4 t36, sT_5 t36, sT_6 t36, sT_7 t36, sT_8 t36, sT_9 t36, vT t36, c_has t36 hC h8, ho, c_isValue, hb2, bI_0, Bool.true_eq_false, Bool.false_eq_true, not_true_eq_false, not_false_eq_true, if_false, reduceCtorEq, p2]
      · rw [if_neg h2] at hb
        by_cases h3 : wv = nI 3
        · rw [if_pos h3] at hb
          refine hone 3 (by omega) (by omega) h3 (WFp_f hW (by omega) (by omega) (by omega) (fun _ => hb) (by omega)) ?_
          subst h3
          have hb2 : vlB (nI 3) yv = true := by unfold vlB; rw [if_neg h2, if_pos rfl]; exact hb
          simp (disch := omega) only [e55_0, e55_1, e55_4, e55_5, e55_8, e55_11, e55_12, e55_13, e55_16, e55_19, e55_21, e55_22, e55_23, e55_24, e55_27, e55_28, e55_31, e55_34, e55_37, e55_38, e55_39, e55_42, e55_43, e55_46, e55_49, e55_52, e55_53, e55_56, e55_59, e55_61, e55_63, e55_64, e55_65, e55_67, e55_69, e55_70, e55_71, e55_72, e55_74, ↓reduceIte, inb_n, ix_n, if_true, ne_eq, Nat.reduceEqDiff, not_false_eq_true, clK_s, tl_s, tl_n, clr_i, clr_n, clr_a, nI_add, gX_2, gT_0 t36, gT_1 t36, gT_2 t36, gT_3 t36, gT_4 t36, gT_5 t36, gT_6 t36, gT_7 t36, gT_8 t36, gT_9 t36, gT_10 t36, gT_11 t36, gT_12 t36, gT_13 t36, gT_14 t36, gT_15 t36, gT_16 t36, gT_17 t36, pT_10 t36, pT_11 t36, pT_12 t36, pT_13 t36, pT_14 t36, pT_15 t36, pT_16 t36, pT_17 t36, aT_1 t36, aT_2 t36, aT_3 t36, aT_4 t36, aT_5 t36, aT_6 t36, aT_7 t36, aT_8 t36, aT_9 t36, sT_1 t36, sT_2 t36, sT_3 t36, sT_4 t36, sT_5 t36, sT_6 t36, sT_7 t36, sT_8 t36, sT_9 t36, vT t36, c_has t36 hC h8, ho, c_isValue, hb2, bI_0, Bool.true_eq_false, Bool.false_eq_true, not_true_eq_false, not_false_eq_true, if_false, reduceCtorEq, h2, p3]
        · rw [if_neg h3] at hb
          by_cases h4 : wv = nI 4
          · rw [if_pos h4] at hb
            refine hone 4 (by omega) (by omega) h4 (WFp_f hW (by omega) (by omega) (by omega) (by omega) (fun _ => hb)) ?_
            subst h4
            have hb2 : vlB (nI 4) yv = true := by unfold vlB; rw [if_neg h2, if_neg h3, if_pos rfl]; exact hb
            simp (disch := omega) only [e55_0, e55_1, e55_4, e55_5, e55_8, e55_11, e55_12, e55_13, e55_16, e55_19, e55_21, e55_22, e55_23, e55_24, e55_27, e55_28, e55_31, e55_34, e55_37, e55_38, e55_39, e55_42, e55_43, e55_46, e55_49, e55_52, e55_53, e55_56, e55_59, e55_61, e55_63, e55_64, e55_65, e55_67, e55_69, e55_70, e55_71, e55_72, e55_74, ↓reduceIte, inb_n, ix_n, if_true, ne_eq, Nat.reduceEqDiff, not_false_eq_true, clK_s, tl_s, tl_n, clr_i, clr_n, clr_a, nI_add, gX_2, gT_0 t36, gT_1 t36, gT_2 t36, gT_3 t36, gT_4 t36, gT_5 t36, gT_6 t36, gT_7 t36, gT_8 t36, gT_9 t36, gT_10 t36, gT_11 t36, gT_12 t36, gT_13 t36, gT_14 t36, gT_15 t36, gT_16 t36, gT_17 t36, pT_10 t36, pT_11 t36, pT_12 t36, pT_13 t36, pT_14 t36, pT_15 t36, pT_16 t36, pT_17 t36, aT_1 t36, aT_2 t36, aT_3 t36, aT_4 t36, aT_5 t36, aT_6 t36, aT_7 t36, aT_8 t36, aT_9 t36, sT_1 t36, sT_2 t36, sT_3 t36, sT_4 t36, sT_5 t36, sT_6 t36, sT_7 t36, sT_8 t36, sT_9 t36, vT t36, c_has t36 hC h8, ho, c_isValue, hb2, bI_0, Bool.true_eq_false, Bool.false_eq_true, not_true_eq_false, not_false_eq_true, if_false, reduceCtorEq, h2, h3, p4]
          · rw [if_neg h4] at hb
            cases hb
theorem op_moves {xv yv : Int32} (hI : INV σ A B im) : OK2 σ (Rn E (d + 50) 56 0 [some (.ref 0), some (.int xv), some (.int yv), none] []) (Rn E (d + 50) 138 0 [some (.ref 93), some (.int xv), some (.int yv)] []) := by
  obtain ⟨⟨hC, hM, hW, hX, hc, hR⟩, _⟩ := id hI
  have h8 := hW.1
  cases ho : hasB A xv with
  | false =>
    refine ok_read (vv := (-1000000001)) hI ?_ ?_
    · simp (disch := omega) only [e56_0, e56_1, e56_4, e56_5, e56_8, e56_11, e56_12, e56_13, e56_15, e56_18, e56_21, e56_23, e56_24, e56_25, e56_28, e56_29, e56_32, e56_35, e56_37, e56_38, e56_39, e56_42, e56_45, e56_46, e56_47, e56_48, e56_49, e56_52, e56_53, e56_54, e56_57, e56_58, ↓reduceIte, inb_n, ix_n, if_true, ne_eq, Nat.reduceEqDiff, not_false_eq_true, clK_s, tl_s, tl_n, clr_i, clr_n, clr_a, nI_add, gX_2, gT_0 t36, gT_1 t36, gT_2 t36, gT_3 t36, gT_4 t36, gT_5 t36, gT_6 t36, gT_7 t36, gT_8 t36, gT_9 t36, gT_10 t36, gT_11 t36, gT_12 t36, gT_13 t36, gT_14 t36, gT_15 t36, gT_16 t36, gT_17 t36, pT_10 t36, pT_11 t36, pT_12 t36, pT_13 t36, pT_14 t36, pT_15 t36, pT_16 t36, pT_17 t36, aT_1 t36, aT_2 t36, aT_3 t36, aT_4 t36, aT_5 t36, aT_6 t36, aT_7 t36, aT_8 t36, aT_9 t36, sT_1 t36, sT_2 t36, sT_3 t36, sT_4 t36, sT_5 t36, sT_6 t36, sT_7 t36, sT_8 t36, sT_9 t36, vT t36, c_has t36 hC h8, ho, bI_0, Bool.true_eq_false, Bool.false_eq_true, not_true_eq_false, not_false_eq_true, if_false, reduceCtorEq]
    · simp (disch := omega) only [e138_0, e138_1, e138_2, e138_5, e138_8, e138_9, e138_12, e138_15, e138_17, e138_18, e138_19, e138_20, e138_23, e138_26, e138_27, e138_29, e138_30, e138_31, e138_32, e138_33, e138_34, e138_35, e138_36, e138_39, e138_42, e138_44, ↓reduceIte, gM_0, a_94, inb_n, ix_n, if_true, ne_eq, Nat.reduceEqDiff, not_false_eq_true, vM, clK_s, tl_s, tl_n, clr_i, clr_n, clr_a, nI_add, k_isOne hM h8, ho, bI_0, Bool.true_eq_false, Bool.false_eq_true, not_true_eq_false, not_false_eq_true, if_false, reduceCtorEq]
  | true =>
    obtain ⟨kz, hk, rfl⟩ := hasB_ex ho
    cases hb : rg 0 19 yv with
    | false =>
      refine ok_read (vv := (-1000000001)) hI ?_ ?_
      · simp (disch := omega) only [e56_0, e56_1, e56_4, e56_5, e56_8, e56_11, e56_12, e56_13, e56_15, e56_18, e56_21, e56_23, e56_24, e56_25, e56_28, e56_29, e56_32, e56_35, e56_37, e56_38, e56_39, e56_42, e56_45, e56_46, e56_47, e56_48, e56_49, e56_52, e56_53, e56_54, e56_57, e56_58, ↓reduceIte, inb_n, ix_n, if_true, ne_eq, Nat.reduceEqDiff, not_false_eq_true, clK_s, tl_s, tl_n, clr_i, clr_n, clr_a, nI_add, gX_2, gT_0 t36, gT_1 t36, gT_2 t36, gT_3 t36, gT_4 t36, gT_5 t36, gT_6 t36, gT_7 t36, gT_8 t36, gT_9 t36, gT_10 t36, gT_11 t36, gT_12 t36, gT_13 t36, gT_14 t36, gT_15 t36, gT_16 t36, gT_17 t36, pT_10 t36, pT_11 t36, pT_12 t36, pT_13 t36, pT_14 t36, pT_15 t36, pT_16 t36, pT_17 t36, aT_1 t36, aT_2 t36, aT_3 t36, aT_4 t36, aT_5 t36, aT_6 t36, aT_7 t36, aT_8 t36, aT_9 t36, sT_1 t36, sT_2 t36, sT_3 t36, sT_4 t36, sT_5 t36, sT_6 t36, sT_7 t36, sT_8 t36, sT_9 t36, vT t36, c_has t36 hC h8, ho, c_isWithin, tI_0, tI_1, tI_2, tI_3, tI_4, tI_5, tI_6, tI_7, tI_8, tI_19, tI_20, tI_23, tI_24, tI_29, tI_30, tI_48, tI_50, tI_57, tI_60, tI_97, tI_100, tI_122, tI_200, tI_99999, tI_m1, tI_m99999, hb, bI_0, Bool.true_eq_false, Bool.false_eq_true, not_true_eq_false, not_false_eq_true, if_false, reduceCtorEq]
      · simp (disch := omega) only [e138_0, e138_1, e138_2, e138_5, e138_8, e138_9, e138_12, e138_15, e138_17, e138_18, e138_19, e138_20, e138_23, e138_26, e138_27, e138_29, e138_30, e138_31, e138_32, e138_33, e138_34, e138_35, e138_36, e138_39, e138_42, e138_44, ↓reduceIte, gM_0, a_94, inb_n, ix_n, if_true, ne_eq, Nat.reduceEqDiff, not_false_eq_true, vM, clK_s, tl_s, tl_n, clr_i, clr_n, clr_a, nI_add, k_isOne hM h8, ho, k_isPlace, hb, bI_0, Bool.true_eq_false, Bool.false_eq_true, not_true_eq_false, not_false_eq_true, if_false, reduceCtorEq]
    | true =>
      obtain ⟨pz, hp, rfl⟩ := rg_e (n := 19) rfl hb
      have hp : pz < 20 := by omega
      cases hf : spFr A (nI pz) with
      | false =>
        refine ok_read (vv := (-1000000002)) hI ?_ ?_
        · simp (disch := omega) only [e56_0, e56_1, e56_4, e56_5, e56_8, e56_11, e56_12, e56_13, e56_15, e56_18, e56_21, e56_23, e56_24, e56_25, e56_28, e56_29, e56_32, e56_35, e56_37, e56_38, e56_39, e56_42, e56_45, e56_46, e56_47, e56_48, e56_49, e56_52, e56_53, e56_54, e56_57, e56_58, ↓reduceIte, inb_n, ix_n, if_true, ne_eq, Nat.reduceEqDiff, not_false_eq_true, clK_s, tl_s, tl_n, clr_i, clr_n, clr_a, nI_add, gX_2, gT_0 t36, gT_1 t36, gT_2 t36, gT_3 t36, gT_4 t36, gT_5 t36, gT_6 t36, gT_7 t36, gT_8 t36, gT_9 t36, gT_10 t36, gT_11 t36, gT_12 t36, gT_13 t36, gT_14 t36, gT_15 t36, gT_16 t36, gT_17 t36, pT_10 t36, pT_11 t36, pT_12 t36, pT_13 t36, pT_14 t36, pT_15 t36, pT_16 t36, pT_17 t36, aT_1 t36, aT_2 t36, aT_3 t36, aT_4 t36, aT_5 t36, aT_6 t36, aT_7 t36, aT_8 t36, aT_9 t36, sT_1 t36, sT_2 t36, sT_3 t36, sT_4 t36, sT_5 t36, sT_6 t36, sT_7 t36, sT_8 t36, sT_9 t36, vT t36, c_has t36 hC h8, ho, c_isWithin, tI_0, tI_1, tI_2, tI_3, tI_4, tI_5, tI_6, tI_7, tI_8, tI_19, tI_20, tI_23, tI_24, tI_29, tI_30, tI_48, tI_50, tI_57, tI_60, tI_97, tI_100, tI_122, tI_200, tI_99999, tI_m1, tI_m99999, hb, bI_0, Bool.true_eq_false, Bool.false_eq_true, not_true_eq_false, not_false_eq_true, if_false, reduceCtorEq, c_isFree t36 hC h8 hp, hf]
        · simp (disch := omega) only [e138_0, e138_1, e138_2, e138_5, e138_8, e138_9, e138_12, e138_15, e138_17, e138_18, e138_19, e138_20, e138_23, e138_26, e138_27, e138_29, e138_30, e138_31, e138_32, e138_33, e138_34, e138_35, e138_36, e138_39, e138_42, e138_44, ↓reduceIte, gM_0, a_94, inb_n, ix_n, if_true, ne_eq, Nat.reduceEqDiff, not_false_eq_true, vM, clK_s, tl_s, tl_n, clr_i, clr_n, clr_a, nI_add, k_isOne hM h8, ho, k_isPlace, hb, bI_0, Bool.true_eq_false, Bool.false_eq_true, not_true_eq_false, not_false_eq_true, if_false, reduceCtorEq, k_isFree hM h8, hf]
      | true =>
        obtain ⟨oz, ho2, eo⟩ := (hW.2.1 kz hk).1
        have p1 := hC.k1 hk
        have hCn := CR_mv hC hW hk eo ho2 hp (fun a ha _ => spW_none (spFr_iff.mp hf).1 a ha)
        have hq : QT σ (su (su (su σ (36 + 7) oz (-1)) (36 + 2) kz (nI pz)) (36 + 7) pz (nI kz)) := ((ft_r (by omega) (by omega)).tr (ft_r (by omega) (by omega))).tr (ft_r (by omega) (by omega))
        have e94 : su (su (su σ (36 + 7) oz (-1)) (36 + 2) kz (nI pz)) (36 + 7) pz (nI kz) 94 = σ 94 := by rw [su_row (by omega), su_row (by omega), su_row (by omega)]
        have hM1 : MR (su (su (su σ (36 + 7) oz (-1)) (36 + 2) kz (nI pz)) (36 + 7) pz (nI kz) 94) A := by rw [e94]; exact hM
        have f0 : su (su (su σ (36 + 7) oz (-1)) (36 + 2) kz (nI pz)) (36 + 7) pz (nI kz) 94 (10 + 5 * kz + 1) = tF A kz 1 := by rw [e94]; exact hM.2.1 kz hk 1 (by omega)
        refine ⟨tF A kz 1, su (su (su σ (36 + 7) oz (-1)) (36 + 2) kz (nI pz)) (36 + 7) pz (nI kz), su (su (su (su σ (36 + 7) oz (-1)) (36 + 2) kz (nI pz)) (36 + 7) pz (nI kz)) 94 (10 + 5 * kz + 1) (nI pz), tnF A kz 1 (nI pz), B, im, ?_, ?_, hI.q (hq.tr fr94) (hCn.ext (fun a h1 h2 _ => su_row (by omega))) ?_ (WFp_mv hW hk hp hf) hc rfl⟩
        · simp (disch := omega) only [e56_0, e56_1, e56_4, e56_5, e56_8, e56_11, e56_12, e56_13, e56_15, e56_18, e56_21, e56_23, e56_24, e56_25, e56_28, e56_29, e56_32, e56_35, e56_37, e56_38, e56_39, e56_42, e56_45, e56_46, e56_47, e56_48, e56_49, e56_52, e56_53, e56_54, e56_57, e56_58, ↓reduceIte, inb_n, ix_n, if_true, ne_eq, Nat.reduceEqDiff, not_false_eq_true, clK_s, tl_s, tl_n, clr_i, clr_n, clr_a, nI_add, gX_2, gT_0 t36, gT_1 t36, gT_2 t36, gT_3 t36, gT_4 t36, gT_5 t36, gT_6 t36, gT_7 t36, gT_8 t36, gT_9 t36, gT_10 t36, gT_11 t36, gT_12 t36, gT_13 t36, gT_14 t36, gT_15 t36, gT_16 t36, gT_17 t36, pT_10 t36, pT_11 t36, pT_12 t36, pT_13 t36, pT_14 t36, pT_15 t36, pT_16 t36, pT_17 t36, aT_1 t36, aT_2 t36, aT_3 t36, aT_4 t36, aT_5 t36, aT_6 t36, aT_7 t36, aT_8 t36, aT_9 t36, sT_1 t36, sT_2 t36, sT_3 t36, sT_4 t36, sT_5 t36, sT_6 t36, sT_7 t36, sT_8 t36, sT_9 t36, vT t36, c_has t36 hC h8, ho, c_isWithin, tI_0, tI_1, tI_2, tI_3, tI_4, tI_5, tI_6, tI_7, tI_8, tI_19, tI_20, tI_23, tI_24, tI_29, tI_30, tI_48, tI_50, tI_57, tI_60, tI_97, tI_100, tI_122, tI_200, tI_99999, tI_m1, tI_m99999, hb, bI_0, Bool.true_eq_false, Bool.false_eq_true, not_true_eq_false, not_false_eq_true, if_false, reduceCtorEq, c_isFree t36 hC h8 hp, hf, p1, c_settle t36 hC h8 hk eo ho2 hp]
        · simp (disch := omega) only [e138_0, e138_1, e138_2, e138_5, e138_8, e138_9, e138_12, e138_15, e138_17, e138_18, e138_19, e138_20, e138_23, e138_26, e138_27, e138_29, e138_30, e138_31, e138_32, e138_33, e138_34, e138_35, e138_36, e138_39, e138_42, e138_44, ↓reduceIte, gM_0, a_94, inb_n, ix_n, if_true, ne_eq, Nat.reduceEqDiff, not_false_eq_true, vM, clK_s, tl_s, tl_n, clr_i, clr_n, clr_a, nI_add, k_isOne hM1 h8, ho, k_isPlace, hb, bI_0, Bool.true_eq_false, Bool.false_eq_true, not_true_eq_false, not_false_eq_true, if_false, reduceCtorEq, k_isFree hM1 h8, hf, pk_mul, k_changes, f0]
        · rw [su_rf, e94]
          exact MR_f hM h8 hk (by omega)
theorem WFc_c {i : Nat} {xv : Int32} (hc : WFc A) (h2 : i = 2 → ∃ dz, dz ≤ 9999 ∧ xv = nI dz) (h6 : i = 6 → rg 0 200 xv = true) : WFc (tnC A i xv) := by
  obtain ⟨g1, g2⟩ := hc
  constructor
  · show ∃ dz, dz ≤ 9999 ∧ (if 2 = i then xv else tC A 2) = nI dz
    by_cases hq : 2 = i
    · rw [if_pos hq]; exact h2 hq.symm
    · rw [if_neg hq]; exact g1
  · show rg 0 200 (if 6 = i then xv else tC A 6) = true
    by_cases hq : 6 = i
    · rw [if_pos hq]; exact h6 hq.symm
    · rw [if_neg hq]; exact g2
theorem op_seed {xv : Int32} (hI : INV σ A B im) : OK2 σ (Rn E (d + 50) 61 0 [some (.ref 0), some (.int xv), none] []) (Rn E (d + 50) 143 0 [some (.ref 93), some (.int xv)] []) := by
  obtain ⟨⟨hC, hM, hW, hX, hc, hR⟩, _⟩ := id hI
  have h8 := hW.1
  have p := hC.z
  have f0 : su σ 36 16 xv 94 9 = tC A 9 := by rw [su_row (by omega)]; exact hM.2.2.1 9 (by omega) (by omega)
  have hCn : CR (su σ 36 16 xv) 36 (tnC A 9 xv) := CR_c (i := 9) hC (by omega)
  refine ⟨tC A 9, su σ 36 16 xv, su (su σ 36 16 xv) 94 9 xv, tnC A 9 xv, B, im, ?_, ?_, hI.q ((ft_r (by omega) (by omega)).tr fr94) (hCn.ext (fun a h1 h2 _ => su_row (by omega))) ?_ ((eqT_c (by omega)).wfp hW) (WFc_c hc (by omega) (by omega)) rfl⟩
  · simp (disch := omega) only [e61_0, e61_1, e61_4, e61_7, e61_8, e61_9, e61_12, e61_13, e61_16, e61_17, ↓reduceIte, inb_n, ix_n, if_true, ne_eq, Nat.reduceEqDiff, not_false_eq_true, clK_s, tl_s, tl_n, clr_i, clr_n, clr_a, nI_add, gX_2, gT_0 t36, gT_1 t36, gT_2 t36, gT_3 t36, gT_4 t36, gT_5 t36, gT_6 t36, gT_7 t36, gT_8 t36, gT_9 t36, gT_10 t36, gT_11 t36, gT_12 t36, gT_13 t36, gT_14 t36, gT_15 t36, gT_16 t36, gT_17 t36, pT_10 t36, pT_11 t36, pT_12 t36, pT_13 t36, pT_14 t36, pT_15 t36, pT_16 t36, pT_17 t36, aT_1 t36, aT_2 t36, aT_3 t36, aT_4 t36, aT_5 t36, aT_6 t36, aT_7 t36, aT_8 t36, aT_9 t36, sT_1 t36, sT_2 t36, sT_3 t36, sT_4 t36, sT_5 t36, sT_6 t36, sT_7 t36, sT_8 t36, sT_9 t36, vT t36, p]
  · simp (disch := omega) only [e143_0, e143_1, e143_3, e143_4, e143_7, ↓reduceIte, gM_0, a_94, inb_n, ix_n, if_true, ne_eq, Nat.reduceEqDiff, not_false_eq_true, vM, clK_s, tl_s, tl_n, clr_i, clr_n, clr_a, nI_add, k_changes, f0]
  · rw [su_rf, su_row (by omega)]
    exact MR_c hM h8 (by omega)
theorem CR_r {h i : Nat} {xv : Int32} (hC : CR σ h A) (hi : i < 3) : CR (su σ (h + 8) i xv) h (tnC A (6 + i) xv) := by
  obtain ⟨c1, c2, c3, c4, c5, ⟨d1, d2, d3, d4, d5, d6⟩, c7⟩ := hC
  have hr : ∀ a, a ≠ h + 8 → su σ (h + 8) i xv a = σ a := fun a ha => su_row ha
  have ht : ∀ k, k ≠ 6 + i → tC (tnC A (6 + i) xv) k = tC A k := fun k hk => if_neg hk
  refine ⟨by rw [hr _ (by omega)]; exact c1, ?_, ?_, ?_, by rw [hr _ (by omega)]; exact c5, ⟨?_, ?_, ?_, ?_, ?_, ?_⟩, by rw [hr _ (by omega)]; exact c7⟩
  · intro kz hk j hj
    rw [hr _ (by omega)]; exact c2 kz hk j hj
  · intro pz hp
    rw [hr _ (by omega)]; exact c3 pz hp
  · intro k hk
    rw [su_rf]
    show _ = if 6 + k = 6 + i then xv else tC A (6 + k)
    by_cases hq : k = i
    · rw [hq, pk_us, if_pos rfl]
    · rw [pk_un hq, if_neg (by omega)]; exact c4 k hk
  · rw [hr _ (by omega), ht _ (by omega)]; exact d1
  · rw [hr _ (by omega), ht _ (by omega)]; exact d2
  · rw [hr _ (by omega), ht _ (by omega)]; exact d3
  · rw [hr _ (by omega), ht _ (by omega)]; exact d4
  · rw [hr _ (by omega), ht _ (by omega)]; exact d5
  · rw [hr _ (by omega), ht _ (by omega)]; exact d6
theorem op_rule {xv yv : Int32} (hI : INV σ A B im) : OK2 σ (Rn E (d + 50) 59 0 [some (.ref 0), some (.int xv), some (.int yv), none] []) (Rn E (d + 50) 141 0 [some (.ref 93), some (.int xv), some (.int yv)] []) := by
  obtain ⟨⟨hC, hM, hW, hX, hc, hR⟩, _⟩ := id hI
  have h8 := hW.1
  cases ho : rg 0 2 xv with
  | false =>
    refine ok_read (vv := (-1000000001)) hI ?_ ?_
    · simp (disch := omega) only [e59_0, e59_1, e59_2, e59_3, e59_6, e59_9, e59_10, e59_11, e59_12, e59_15, e59_18, e59_21, e59_23, e59_26, e59_29, e59_31, e59_32, e59_33, e59_36, e59_39, e59_40, e59_41, e59_42, e59_43, e59_46, e59_49, e59_50, e59_51, e59_52, e59_53, ↓reduceIte, inb_n, ix_n, if_true, ne_eq, Nat.reduceEqDiff, not_false_eq_true, clK_s, tl_s, tl_n, clr_i, clr_n, clr_a, nI_add, c_isWithin, tI_0, tI_1, tI_2, tI_3, tI_4, tI_5, tI_6, tI_7, tI_8, tI_19, tI_20, tI_23, tI_24, tI_29, tI_30, tI_48, tI_50, tI_57, tI_60, tI_97, tI_100, tI_122, tI_200, tI_99999, tI_m1, tI_m99999, ho, bI_0, Bool.true_eq_false, Bool.false_eq_true, not_true_eq_false, not_false_eq_true, if_false, reduceCtorEq]
    · simp (disch := omega) only [e141_0, e141_1, e141_2, e141_3, e141_6, e141_9, e141_12, e141_13, e141_14, e141_15, e141_16, e141_19, e141_22, e141_25, e141_28, e141_31, e141_34, e141_35, e141_37, e141_38, e141_39, e141_40, e141_43, e141_46, e141_48, ↓reduceIte, gM_0, a_94, inb_n, ix_n, if_true, ne_eq, Nat.reduceEqDiff, not_false_eq_true, vM, clK_s, tl_s, tl_n, clr_i, clr_n, clr_a, nI_add, k_in, rgL_c, tL_0, tL_1, tL_2, tL_3, tL_4, tL_5, tL_6, tL_7, tL_8, tL_19, tL_30, tL_48, tL_50, tL_57, tL_60, tL_97, tL_100, tL_122, tL_200, tL_99999, tL_m1, tL_m99999, ho, bI_0, Bool.true_eq_false, Bool.false_eq_true, not_true_eq_false, not_false_eq_true, if_false, reduceCtorEq]
  | true =>
    obtain ⟨iz, hi, rfl⟩ := rg_e (n := 2) rfl ho
    have p := hC.2.2.2.1 iz (by omega)
    have hCn : CR (su σ (36 + 8) iz yv) 36 (tnC A (6 + iz) yv) := CR_r hC (by omega)
    have f0 : su σ (36 + 8) iz yv 94 (6 + iz) = tC A (6 + iz) := by rw [su_row (by omega)]; exact hM.2.2.1 (6 + iz) (by omega) (by omega)
    have hfin : (iz = 0 → rg 0 200 yv = true) → Rn E (d + 50) 59 0 [some (.ref 0), some (.int (nI iz)), some (.int yv), none] [] (shp, σ) = some (some (.int (tC A (6 + iz))), (shp, su σ (36 + 8) iz yv)) → Rn E (d + 50) 141 0 [some (.ref 93), some (.int (nI iz)), some (.int yv)] [] (shp, su σ (36 + 8) iz yv) = some (some (.int (tC A (6 + iz))), (shp, su (su σ (36 + 8) iz yv) 94 (6 + iz) yv)) → OK2 σ (Rn E (d + 50) 59 0 [some (.ref 0), some (.int (nI iz)), some (.int yv), none] []) (Rn E (d + 50) 141 0 [some (.ref 93), some (.int (nI iz)), some (.int yv)] []) := by
      intro h0 g1 g2
      refine ⟨_, _, _, tnC A (6 + iz) yv, B, im, g1, g2, hI.q ((ft_r (by omega) (by omega)).tr fr94) (hCn.ext (fun a h1 h2 _ => su_row (by omega))) ?_ ((eqT_c (by omega)).wfp hW) (WFc_c hc (by omega) (fun z => h0 (by omega))) rfl⟩
      rw [su_rf, su_row (by omega)]
      exact MR_c hM h8 (by omega)
    by_cases hz : iz = 0
    · subst hz
      cases hb : rg 0 200 yv with
      | false =>
        refine ok_read (vv := (-1000000001)) hI ?_ ?_
        · simp (disch := omega) only [e59_0, e59_1, e59_2, e59_3, e59_6, e59_9, e59_10, e59_11, e59_12, e59_15, e59_18, e59_21, e59_23, e59_26, e59_29, e59_31, e59_32, e59_33, e59_36, e59_39, e59_40, e59_41, e59_42, e59_43, e59_46, e59_49, e59_50, e59_51, e59_52, e59_53, ↓reduceIte, inb_n, ix_n, if_true, ne_eq, Nat.reduceEqDiff, not_false_eq_true, clK_s, tl_s, tl_n, clr_i, clr_n, clr_a, nI_add, c_isWithin, tI_0, tI_1, tI_2, tI_3, tI_4, tI_5, tI_6, tI_7, tI_8, tI_19, tI_20, tI_23, tI_24, tI_29, tI_30, tI_48, tI_50, tI_57, tI_60, tI_97, tI_100, tI_122, tI_200, tI_99999, tI_m1, tI_m99999, ho, hb, bI_0, Bool.true_eq_false, Bool.false_eq_true, not_true_eq_false, not_false_eq_true, if_false, reduceCtorEq]
        · simp (disch := omega) only [e141_0, e141_1, e141_2, e141_3, e141_6, e141_9, e141_12, e141_13, e141_14, e141_15, e141_16, e141_19, e141_22, e141_25, e141_28, e141_31, e141_34, e141_35, e141_37, e141_38, e141_39, e141_40, e141_43, e141_46, e141_48, ↓reduceIte, gM_0, a_94, inb_n, ix_n, if_true, ne_eq, Nat.reduceEqDiff, not_false_eq_true, vM, clK_s, tl_s, tl_n, clr_i, clr_n, clr_a, nI_add, k_in, rgL_c, tL_0, tL_1, tL_2, tL_3, tL_4, tL_5, tL_6, tL_7, tL_8, tL_19, tL_30, tL_48, tL_50, tL_57, tL_60, tL_97, tL_100, tL_122, tL_200, tL_99999, tL_m1, tL_m99999, ho, hb, bI_0, Bool.true_eq_false, Bool.false_eq_true, not_true_eq_false, not_false_eq_true, if_false, reduceCtorEq]
      | true =>
        refine hfin (fun _ => hb) ?_ ?_
        · simp (disch := omega) only [e59_0, e59_1, e59_2, e59_3, e59_6, e59_9, e59_10, e59_11, e59_12, e59_15, e59_18, e59_21, e59_23, e59_26, e59_29, e59_31, e59_32, e59_33, e59_36, e59_39, e59_40, e59_41, e59_42, e59_43, e59_46, e59_49, e59_50, e59_51, e59_52, e59_53, ↓reduceIte, inb_n, ix_n, if_true, ne_eq, Nat.reduceEqDiff, not_false_eq_true, clK_s, tl_s, tl_n, clr_i, clr_n, clr_a, nI_add, c_isWithin, tI_0, tI_1, tI_2, tI_3, tI_4, tI_5, tI_6, tI_7, tI_8, tI_19, tI_20, tI_23, tI_24, tI_29, tI_30, tI_48, tI_50, tI_57, tI_60, tI_97, tI_100, tI_122, tI_200, tI_99999, tI_m1, tI_m99999, ho, hb, bI_0, Bool.true_eq_false, Bool.false_eq_true, not_true_eq_false, not_false_eq_true, if_false, reduceCtorEq, gX_2, gT_0 t36, gT_1 t36, gT_2 t36, gT_3 t36, gT_4 t36, gT_5 t36, gT_6 t36, gT_7 t36, gT_8 t36, gT_9 t36, gT_10 t36, gT_11 t36, gT_12 t36, gT_13 t36, gT_14 t36, gT_15 t36, gT_16 t36, gT_17 t36, pT_10 t36, pT_11 t36, pT_12 t36, pT_13 t36, pT_14 t36, pT_15 t36, pT_16 t36, pT_17 t36, aT_1 t36, aT_2 t36, aT_3 t36, aT_4 t36, aT_5 t36, aT_6 t36, aT_7 t36, aT_8 t36, aT_9 t36, sT_1 t36, sT_2 t36, sT_3 t36, sT_4 t36, sT_5 t36, sT_6 t36, sT_7 t36, sT_8 t36, sT_9 t36, vT t36, p]
        · simp (disch := omega) only [e141_0, e141_1, e141_2, e141_3, e141_6, e141_9, e141_12, e141_13, e141_14, e141_15, e141_16, e141_19, e141_22, e141_25, e141_28, e141_31, e141_34, e141_35, e141_37, e141_38, e141_39, e141_40, e141_43, e141_46, e141_48, ↓reduceIte, gM_0, a_94, inb_n, ix_n, if_true, ne_eq, Nat.reduceEqDiff, not_false_eq_true, vM, clK_s, tl_s, tl_n, clr_i, clr_n, clr_a, nI_add, k_in, rgL_c, tL_0, tL_1, tL_2, tL_3, tL_4, tL_5, tL_6, tL_7, tL_8, tL_19, tL_30, tL_48, tL_50, tL_57, tL_60, tL_97, tL_100, tL_122, tL_200, tL_99999, tL_m1, tL_m99999, ho, hb, bI_0, Bool.true_eq_false, Bool.false_eq_true, not_true_eq_false, not_false_eq_true, if_false, reduceCtorEq, k_changes, f0]
    · have hz2 : ¬ nI iz = nI 0 := fun z => hz ((nI_eq (by omega) (by omega)).mp z)
      cases hb : rg 0 100 yv with
      | false =>
        refine ok_read (vv := (-1000000001)) hI ?_ ?_
        · simp (disch := omega) only [e59_0, e59_1, e59_2, e59_3, e59_6, e59_9, e59_10, e59_11, e59_12, e59_15, e59_18, e59_21, e59_23, e59_26, e59_29, e59_31, e59_32, e59_33, e59_36, e59_39, e59_40, e59_41, e59_42, e59_43, e59_46, e59_49, e59_50, e59_51, e59_52, e59_53, ↓reduceIte, inb_n, ix_n, if_true, ne_eq, Nat.reduceEqDiff, not_false_eq_true, clK_s, tl_s, tl_n, clr_i, clr_n, clr_a, nI_add, c_isWithin, tI_0, tI_1, tI_2, tI_3, tI_4, tI_5, tI_6, tI_7, tI_8, tI_19, tI_20, tI_23, tI_24, tI_29, tI_30, tI_48, tI_50, tI_57, tI_60, tI_97, tI_100, tI_122, tI_200, tI_99999, tI_m1, tI_m99999, ho, hz2, hb, bI_0, Bool.true_eq_false, Bool.false_eq_true, not_true_eq_false, not_false_eq_true, if_false, reduceCtorEq]
        · simp (disch := omega) only [e141_0, e141_1, e141_2, e141_3, e141_6, e141_9, e141_12, e141_13, e141_14, e141_15, e141_16, e141_19, e141_22, e141_25, e141_28, e141_31, e141_34, e141_35, e141_37, e141_38, e141_39, e141_40, e141_43, e141_46, e141_48, ↓reduceIte, gM_0, a_94, inb_n, ix_n, if_true, ne_eq, Nat.reduceEqDiff, not_false_eq_true, vM, clK_s, tl_s, tl_n, clr_i, clr_n, clr_a, nI_add, k_in, rgL_c, tL_0, tL_1, tL_2, tL_3, tL_4, tL_5, tL_6, tL_7, tL_8, tL_19, tL_30, tL_48, tL_50, tL_57, tL_60, tL_97, tL_100, tL_122, tL_200, tL_99999, tL_m1, tL_m99999, ho, hz2, hb, bI_0, Bool.true_eq_false, Bool.false_eq_true, not_true_eq_false, not_false_eq_true, if_false, reduceCtorEq]
      | true =>
        refine hfin (fun z => absurd z hz) ?_ ?_
        · simp (disch := omega) only [e59_0, e59_1, e59_2, e59_3, e59_6, e59_9, e59_10, e59_11, e59_12, e59_15, e59_18, e59_21, e59_23, e59_26, e59_29, e59_31, e59_32, e59_33, e59_36, e59_39, e59_40, e59_41, e59_42, e59_43, e59_46, e59_49, e59_50, e59_51, e59_52, e59_53, ↓reduceIte, inb_n, ix_n, if_true, ne_eq, Nat.reduceEqDiff, not_false_eq_true, clK_s, tl_s, tl_n, clr_i, clr_n, clr_a, nI_add, c_isWithin, tI_0, tI_1, tI_2, tI_3, tI_4, tI_5, tI_6, tI_7, tI_8, tI_19, tI_20, tI_23, tI_24, tI_29, tI_30, tI_48, tI_50, tI_57, tI_60, tI_97, tI_100, tI_122, tI_200, tI_99999, tI_m1, tI_m99999, ho, hz2, hb, bI_0, Bool.true_eq_false, Bool.false_eq_true, not_true_eq_false, not_false_eq_true, if_false, reduceCtorEq, gX_2, gT_0 t36, gT_1 t36, gT_2 t36, gT_3 t36, gT_4 t36, gT_5 t36, gT_6 t36, gT_7 t36, gT_8 t36, gT_9 t36, gT_10 t36, gT_11 t36, gT_12 t36, gT_13 t36, gT_14 t36, gT_15 t36, gT_16 t36, gT_17 t36, pT_10 t36, pT_11 t36, pT_12 t36, pT_13 t36, pT_14 t36, pT_15 t36, pT_16 t36, pT_17 t36, aT_1 t36, aT_2 t36, aT_3 t36, aT_4 t36, aT_5 t36, aT_6 t36, aT_7 t36, aT_8 t36, aT_9 t36, sT_1 t36, sT_2 t36, sT_3 t36, sT_4 t36, sT_5 t36, sT_6 t36, sT_7 t36, sT_8 t36, sT_9 t36, vT t36, p]
        · simp (disch := omega) only [e141_0, e141_1, e141_2, e141_3, e141_6, e141_9, e141_12, e141_13, e141_14, e141_15, e141_16, e141_19, e141_22, e141_25, e141_28, e141_31, e141_34, e141_35, e141_37, e141_38, e141_39, e141_40, e141_43, e141_46, e141_48, ↓reduceIte, gM_0, a_94, inb_n, ix_n, if_true, ne_eq, Nat.reduceEqDiff, not_false_eq_true, vM, clK_s, tl_s, tl_n, clr_i, clr_n, clr_a, nI_add, k_in, rgL_c, tL_0, tL_1, tL_2, tL_3, tL_4, tL_5, tL_6, tL_7, tL_8, tL_19, tL_30, tL_48, tL_50, tL_57, tL_60, tL_97, tL_100, tL_122, tL_200, tL_99999, tL_m1, tL_m99999, ho, hz2, hb, bI_0, Bool.true_eq_false, Bool.false_eq_true, not_true_eq_false, not_false_eq_true, if_false, reduceCtorEq, k_changes, f0]
end Ops2
