/-! THE REFERENCE READS: a level's loop -/
section Kpf2
variable {E : aE} {D n key L nt dp lv : Nat} {tp : Nat → Nat} {σ σ1 σ2 σ3 : Nat → Nat → Int32} {s : PS} {tk : Tk} {w : Option Value}
theorem k_lpA (h5 : lv < 5) (hK : KP σ n tp) (hT : KT σ tp tk) (hw : tkW tp n tk) (hl : lvS lv (sgn tp tk) = true) (y1 : Rn E D 172 0 [some (.ref 93), none, none] [] (shp, σ) = some (none, (shp, σ1))) (g : Rn E D (kM (lv + 1)) 0 (kL (lv + 1) key none) [] (shp, σ1) = some (some (.int (bI false)), (shp, σ2))) : Rn E (D + 1) (kM lv) 10 (kL lv key w) [] (shp, σ) = some (some (.int (bI false)), (shp, σ2)) := by
  have hs : ∀ cz, 0 < cz → cz < 128 → Rn E D 173 0 [some (.ref 93), some (.int (nI cz))] [] (shp, σ) = some (some (.int (bI (decide (sgn tp tk = cz)))), (shp, σ)) := fun cz h0 hc => k_isSign hK hT hw h0 hc
  have ho := lvS_ok hl
  have k3 := sgn_3 (tp := tp) (tk := tk) (by omega)
  have k20 : σ 93 20 = nI (sgn tp tk) := by rw [k3.2]; exact hT.2.2.2.2.1 k3.1
  unfold lvS at hl
  rcases lv5 h5 with rfl | rfl | rfl | rfl | rfl
  · have g' : Rn E D 179 0 [some (.ref 93), some (.int (nI key))] [] (shp, σ1) = some (some (.int (bI false)), (shp, σ2)) := g
    simp only [if_true, if_false, Bool.or_eq_true, beq_iff_eq] at hl
    show Rn E (D + 1) 178 10 [some (.ref 93), some (.int (nI key))] [] (shp, σ) = some (some (.int (bI false)), (shp, σ2))
    have q1 := hs 124 (by omega) (by omega)
    rw [decide_eq_true hl] at q1
    rw [e178_10]
    simp (disch := omega) only [e178_11, e178_13, e178_16, e178_19, e178_20, e178_23, e178_24, e178_25, e178_28, e178_31, e178_32, ↓reduceIte, gM_0, a_94, inb_n, ix_n, if_true, ne_eq, Nat.reduceEqDiff, not_false_eq_true, vM, clK_s, tl_s, tl_n, clr_i, clr_n, clr_a, nI_add, q1, y1, g', bI_0, Bool.true_eq_false, Bool.false_eq_true, not_true_eq_false, not_false_eq_true, if_false, reduceCtorEq, rz_0]
  · have g' : Rn E D 180 0 [some (.ref 93), some (.int (nI key)), none] [] (shp, σ1) = some (some (.int (bI false)), (shp, σ2)) := g
    simp only [if_true, if_false, Bool.or_eq_true, beq_iff_eq, show ¬ (1 : Nat) = 0 by decide] at hl
    show Rn E (D + 1) 179 10 [some (.ref 93), some (.int (nI key))] [] (shp, σ) = some (some (.int (bI false)), (shp, σ2))
    have q1 := hs 38 (by omega) (by omega)
    rw [decide_eq_true hl] at q1
    rw [e179_10]
    simp (disch := omega) only [e179_11, e179_13, e179_16, e179_19, e179_20, e179_23, e179_24, e179_25, e179_28, e179_31, e179_32, ↓reduceIte, gM_0, a_94, inb_n, ix_n, if_true, ne_eq, Nat.reduceEqDiff, not_false_eq_true, vM, clK_s, tl_s, tl_n, clr_i, clr_n, clr_a, nI_add, q1, y1, g', bI_0, Bool.true_eq_false, Bool.false_eq_true, not_true_eq_false, not_false_eq_true, if_false, reduceCtorEq, rz_0]
  · have g' : Rn E D 181 0 [some (.ref 93), some (.int (nI key)), none] [] (shp, σ1) = some (some (.int (bI false)), (shp, σ2)) := g
    simp only [if_true, if_false, Bool.or_eq_true, beq_iff_eq, show ¬ (2 : Nat) = 0 by decide, show ¬ (2 : Nat) = 1 by decide] at hl
    show Rn E (D + 1) 180 10 [some (.ref 93), some (.int (nI key)), w] [] (shp, σ) = some (some (.int (bI false)), (shp, σ2))
    have hgo : Rn E (D + 1) 180 10 [some (.ref 93), some (.int (nI key)), w] [] (shp, σ) = Rn E (D + 1) 180 37 [some (.ref 93), some (.int (nI key)), w] [] (shp, σ) := by
      have q1 := hs 60 (by omega) (by omega)
      have q2 := hs 61 (by omega) (by omega)
      have q3 := hs 62 (by omega) (by omega)
      by_cases c0 : sgn tp tk = 60
      · rw [decide_eq_true c0] at q1
        simp (disch := omega) only [e180_10, e180_11, e180_13, e180_16, ↓reduceIte, gM_0, a_94, inb_n, ix_n, if_true, ne_eq, Nat.reduceEqDiff, not_false_eq_true, vM, clK_s, tl_s, tl_n, clr_i, clr_n, clr_a, nI_add, q1, bI_0, Bool.true_eq_false, Bool.false_eq_true, not_true_eq_false, not_false_eq_true, if_false, reduceCtorEq]
      · rw [decide_eq_false c0] at q1
        by_cases c1 : sgn tp tk = 61
        · rw [decide_eq_true c1] at q2
          simp (disch := omega) only [e180_10, e180_11, e180_13, e180_16, e180_19, e180_20, e180_22, e180_25, ↓reduceIte, gM_0, a_94, inb_n, ix_n, if_true, ne_eq, Nat.reduceEqDiff, not_false_eq_true, vM, clK_s, tl_s, tl_n, clr_i, clr_n, clr_a, nI_add, q1, q2, bI_0, Bool.true_eq_false, Bool.false_eq_true, not_true_eq_false, not_false_eq_true, if_false, reduceCtorEq]
        · rw [decide_eq_false c1] at q2
          have c2 : sgn tp tk = 62 := by omega
          rw [decide_eq_true c2] at q3
          simp (disch := omega) only [e180_10, e180_11, e180_13, e180_16, e180_19, e180_20, e180_22, e180_25, e180_28, e180_29, e180_31, e180_34, ↓reduceIte, gM_0, a_94, inb_n, ix_n, if_true, ne_eq, Nat.reduceEqDiff, not_false_eq_true, vM, clK_s, tl_s, tl_n, clr_i, clr_n, clr_a, nI_add, q1, q2, q3, bI_0, Bool.true_eq_false, Bool.false_eq_true, not_true_eq_false, not_false_eq_true, if_false, reduceCtorEq]
    rw [hgo]
    simp (disch := omega) only [e180_37, e180_38, e180_41, e180_42, e180_43, e180_46, e180_47, e180_48, e180_51, e180_54, e180_55, ↓reduceIte, gM_0, a_94, inb_n, ix_n, if_true, ne_eq, Nat.reduceEqDiff, not_false_eq_true, vM, clK_s, tl_s, tl_n, clr_i, clr_n, clr_a, nI_add, gM_20, k20, y1, g', bI_0, Bool.true_eq_false, Bool.false_eq_true, not_true_eq_false, not_false_eq_true, if_false, reduceCtorEq, rz_0]
  · have g' : Rn E D 182 0 [some (.ref 93), some (.int (nI key)), none] [] (shp, σ1) = some (some (.int (bI false)), (shp, σ2)) := g
    simp only [if_true, if_false, Bool.or_eq_true, beq_iff_eq, show ¬ (3 : Nat) = 0 by decide, show ¬ (3 : Nat) = 1 by decide, show ¬ (3 : Nat) = 2 by decide] at hl
    show Rn E (D + 1) 181 10 [some (.ref 93), some (.int (nI key)), w] [] (shp, σ) = some (some (.int (bI false)), (shp, σ2))
    have hgo : Rn E (D + 1) 181 10 [some (.ref 93), some (.int (nI key)), w] [] (shp, σ) = Rn E (D + 1) 181 28 [some (.ref 93), some (.int (nI key)), w] [] (shp, σ) := by
      have q1 := hs 43 (by omega) (by omega)
      have q2 := hs 45 (by omega) (by omega)
      by_cases c0 : sgn tp tk = 43
      · rw [decide_eq_true c0] at q1
        rw [e181_10]
        simp (disch := omega) only [e181_11, e181_13, e181_16, ↓reduceIte, gM_0, a_94, inb_n, ix_n, if_true, ne_eq, Nat.reduceEqDiff, not_false_eq_true, vM, clK_s, tl_s, tl_n, clr_i, clr_n, clr_a, nI_add, q1, bI_0, Bool.true_eq_false, Bool.false_eq_true, not_true_eq_false, not_false_eq_true, if_false, reduceCtorEq]
      · rw [decide_eq_false c0] at q1
        have c1 : sgn tp tk = 45 := by omega
        rw [decide_eq_true c1] at q2
        rw [e181_10]
        simp (disch := omega) only [e181_11, e181_13, e181_16, e181_19, e181_20, e181_22, e181_25, ↓reduceIte, gM_0, a_94, inb_n, ix_n, if_true, ne_eq, Nat.reduceEqDiff, not_false_eq_true, vM, clK_s, tl_s, tl_n, clr_i, clr_n, clr_a, nI_add, q1, q2, bI_0, Bool.true_eq_false, Bool.false_eq_true, not_true_eq_false, not_false_eq_true, if_false, reduceCtorEq]
    rw [hgo]
    simp (disch := omega) only [e181_28, e181_29, e181_32, e181_33, e181_34, e181_37, e181_38, e181_39, e181_42, e181_45, e181_46, ↓reduceIte, gM_0, a_94, inb_n, ix_n, if_true, ne_eq, Nat.reduceEqDiff, not_false_eq_true, vM, clK_s, tl_s, tl_n, clr_i, clr_n, clr_a, nI_add, gM_20, k20, y1, g', bI_0, Bool.true_eq_false, Bool.false_eq_true, not_true_eq_false, not_false_eq_true, if_false, reduceCtorEq, rz_0]
  · have g' : Rn E D 183 0 [some (.ref 93), some (.int (nI key))] [] (shp, σ1) = some (some (.int (bI false)), (shp, σ2)) := g
    simp only [if_true, if_false, Bool.or_eq_true, beq_iff_eq, show ¬ (4 : Nat) = 0 by decide, show ¬ (4 : Nat) = 1 by decide, show ¬ (4 : Nat) = 2 by decide, show ¬ (4 : Nat) = 3 by decide] at hl
    show Rn E (D + 1) 182 10 [some (.ref 93), some (.int (nI key)), w] [] (shp, σ) = some (some (.int (bI false)), (shp, σ2))
    have hgo : Rn E (D + 1) 182 10 [some (.ref 93), some (.int (nI key)), w] [] (shp, σ) = Rn E (D + 1) 182 28 [some (.ref 93), some (.int (nI key)), w] [] (shp, σ) := by
      have q1 := hs 42 (by omega) (by omega)
      have q2 := hs 47 (by omega) (by omega)
      by_cases c0 : sgn tp tk = 42
      · rw [decide_eq_true c0] at q1
        rw [e182_10]
        simp (disch := omega) only [e182_11, e182_13, e182_16, ↓reduceIte, gM_0, a_94, inb_n, ix_n, if_true, ne_eq, Nat.reduceEqDiff, not_false_eq_true, vM, clK_s, tl_s, tl_n, clr_i, clr_n, clr_a, nI_add, q1, bI_0, Bool.true_eq_false, Bool.false_eq_true, not_true_eq_false, not_false_eq_true, if_false, reduceCtorEq]
      · rw [decide_eq_false c0] at q1
        have c1 : sgn tp tk = 47 := by omega
        rw [decide_eq_true c1] at q2
        rw [e182_10]
        simp (disch := omega) only [e182_11, e182_13, e182_16, e182_19, e182_20, e182_22, e182_25, ↓reduceIte, gM_0, a_94, inb_n, ix_n, if_true, ne_eq, Nat.reduceEqDiff, not_false_eq_true, vM, clK_s, tl_s, tl_n, clr_i, clr_n, clr_a, nI_add, q1, q2, bI_0, Bool.true_eq_false, Bool.false_eq_true, not_true_eq_false, not_false_eq_true, if_false, reduceCtorEq]
    rw [hgo]
    simp (disch := omega) only [e182_28, e182_29, e182_32, e182_33, e182_34, e182_37, e182_38, e182_39, e182_42, e182_45, e182_46, ↓reduceIte, gM_0, a_94, inb_n, ix_n, if_true, ne_eq, Nat.reduceEqDiff, not_false_eq_true, vM, clK_s, tl_s, tl_n, clr_i, clr_n, clr_a, nI_add, gM_20, k20, y1, g', bI_0, Bool.true_eq_false, Bool.false_eq_true, not_true_eq_false, not_false_eq_true, if_false, reduceCtorEq, rz_0]
theorem k_lpB (h5 : lv < 5) (hK : KP σ n tp) (hT : KT σ tp tk) (hw : tkW tp n tk) (hl : lvS lv (sgn tp tk) = true) (y1 : Rn E D 172 0 [some (.ref 93), none, none] [] (shp, σ) = some (none, (shp, σ1))) (g : Rn E D (kM (lv + 1)) 0 (kL (lv + 1) key none) [] (shp, σ1) = some (some (.int (bI true)), (shp, σ2))) (a : Rn E D 177 0 [some (.ref 93), some (.int (nI 2)), some (.int (nI (sgn tp tk)))] [] (shp, σ2) = some (none, (shp, σ3))) : Rn E (D + 1) (kM lv) 10 (kL lv key w) [] (shp, σ) = (if lv = 2 then some (some (.int (bI true)), (shp, σ3)) else Rn E (D + 1) (kM lv) 10 (kL lv key (some (.int (nI (sgn tp tk))))) [] (shp, σ3)) := by
  have hs : ∀ cz, 0 < cz → cz < 128 → Rn E D 173 0 [some (.ref 93), some (.int (nI cz))] [] (shp, σ) = some (some (.int (bI (decide (sgn tp tk = cz)))), (shp, σ)) := fun cz h0 hc => k_isSign hK hT hw h0 hc
  have ho := lvS_ok hl
  have k3 := sgn_3 (tp := tp) (tk := tk) (by omega)
  have k20 : σ 93 20 = nI (sgn tp tk) := by rw [k3.2]; exact hT.2.2.2.2.1 k3.1
  unfold lvS at hl
  rcases lv5 h5 with rfl | rfl | rfl | rfl | rfl
  · have g' : Rn E D 179 0 [some (.ref 93), some (.int (nI key))] [] (shp, σ1) = some (some (.int (bI true)), (shp, σ2)) := g
    simp only [if_true, if_false, Bool.or_eq_true, beq_iff_eq] at hl
    show Rn E (D + 1) 178 10 [some (.ref 93), some (.int (nI key))] [] (shp, σ) = Rn E (D + 1) 178 10 [some (.ref 93), some (.int (nI key))] [] (shp, σ3)
    have q1 := hs 124 (by omega) (by omega)
    rw [decide_eq_true hl] at q1
    rw [hl] at a
    rw [e178_10]
    simp (disch := omega) only [e178_11, e178_13, e178_16, e178_19, e178_20, e178_23, e178_24, e178_25, e178_28, e178_31, e178_32, e178_33, e178_34, e178_35, e178_37, e178_40, ↓reduceIte, gM_0, a_94, inb_n, ix_n, if_true, ne_eq, Nat.reduceEqDiff, not_false_eq_true, vM, clK_s, tl_s, tl_n, clr_i, clr_n, clr_a, nI_add, q1, y1, g', bI_0, Bool.true_eq_false, Bool.false_eq_true, not_true_eq_false, not_false_eq_true, if_false, reduceCtorEq, a]
  · have g' : Rn E D 180 0 [some (.ref 93), some (.int (nI key)), none] [] (shp, σ1) = some (some (.int (bI true)), (shp, σ2)) := g
    simp only [if_true, if_false, Bool.or_eq_true, beq_iff_eq, show ¬ (1 : Nat) = 0 by decide] at hl
    show Rn E (D + 1) 179 10 [some (.ref 93), some (.int (nI key))] [] (shp, σ) = Rn E (D + 1) 179 10 [some (.ref 93), some (.int (nI key))] [] (shp, σ3)
    have q1 := hs 38 (by omega) (by omega)
    rw [decide_eq_true hl] at q1
    rw [hl] at a
    rw [e179_10]
    simp (disch := omega) only [e179_11, e179_13, e179_16, e179_19, e179_20, e179_23, e179_24, e179_25, e179_28, e179_31, e179_32, e179_33, e179_34, e179_35, e179_37, e179_40, ↓reduceIte, gM_0, a_94, inb_n, ix_n, if_true, ne_eq, Nat.reduceEqDiff, not_false_eq_true, vM, clK_s, tl_s, tl_n, clr_i, clr_n, clr_a, nI_add, q1, y1, g', bI_0, Bool.true_eq_false, Bool.false_eq_true, not_true_eq_false, not_false_eq_true, if_false, reduceCtorEq, a]
  · have g' : Rn E D 181 0 [some (.ref 93), some (.int (nI key)), none] [] (shp, σ1) = some (some (.int (bI true)), (shp, σ2)) := g
    simp only [if_true, if_false, Bool.or_eq_true, beq_iff_eq, show ¬ (2 : Nat) = 0 by decide, show ¬ (2 : Nat) = 1 by decide] at hl
    show Rn E (D + 1) 180 10 [some (.ref 93), some (.int (nI key)), w] [] (shp, σ) = some (some (.int (bI true)), (shp, σ3))
    have hgo : Rn E (D + 1) 180 10 [some (.ref 93), some (.int (nI key)), w] [] (shp, σ) = Rn E (D + 1) 180 37 [some (.ref 93), some (.int (nI key)), w] [] (shp, σ) := by
      have q1 := hs 60 (by omega) (by omega)
      have q2 := hs 61 (by omega) (by omega)
      have q3 := hs 62 (by omega) (by omega)
      by_cases c0 : sgn tp tk = 60
      · rw [decide_eq_true c0] at q1
        simp (disch := omega) only [e180_10, e180_11, e180_13, e180_16, ↓reduceIte, gM_0, a_94, inb_n, ix_n, if_true, ne_eq, Nat.reduceEqDiff, not_false_eq_true, vM, clK_s, tl_s, tl_n, clr_i, clr_n, clr_a, nI_add, q1, bI_0, Bool.true_eq_false, Bool.false_eq_true, not_true_eq_false, not_false_eq_true, if_false, reduceCtorEq]
      · rw [decide_eq_false c0] at q1
        by_cases c1 : sgn tp tk = 61
        · rw [decide_eq_true c1] at q2
          simp (disch := omega) only [e180_10, e180_11, e180_13, e180_16, e180_19, e180_20, e180_22, e180_25, ↓reduceIte, gM_0, a_94, inb_n, ix_n, if_true, ne_eq, Nat.reduceEqDiff, not_false_eq_true, vM, clK_s, tl_s, tl_n, clr_i, clr_n, clr_a, nI_add, q1, q2, bI_0, Bool.true_eq_false, Bool.false_eq_true, not_true_eq_false, not_false_eq_true, if_false, reduceCtorEq]
        · rw [decide_eq_false c1] at q2
          have c2 : sgn tp tk = 62 := by omega
          rw [decide_eq_true c2] at q3
          simp (disch := omega) only [e180_10, e180_11, e180_13, e180_16, e180_19, e180_20, e180_22, e180_25, e180_28, e180_29, e180_31, e180_34, ↓reduceIte, gM_0, a_94, inb_n, ix_n, if_true, ne_eq, Nat.reduceEqDiff, not_false_eq_true, vM, clK_s, tl_s, tl_n, clr_i, clr_n, clr_a, nI_add, q1, q2, q3, bI_0, Bool.true_eq_false, Bool.false_eq_true, not_true_eq_false, not_false_eq_true, if_false, reduceCtorEq]
    rw [hgo]
    simp (disch := omega) only [e180_37, e180_38, e180_41, e180_42, e180_43, e180_46, e180_47, e180_48, e180_51, e180_54, e180_55, e180_56, e180_57, e180_58, e180_59, e180_62, e180_63, ↓reduceIte, gM_0, a_94, inb_n, ix_n, if_true, ne_eq, Nat.reduceEqDiff, not_false_eq_true, vM, clK_s, tl_s, tl_n, clr_i, clr_n, clr_a, nI_add, gM_20, k20, y1, g', bI_0, Bool.true_eq_false, Bool.false_eq_true, not_true_eq_false, not_false_eq_true, if_false, reduceCtorEq, a, rz_1]
  · have g' : Rn E D 182 0 [some (.ref 93), some (.int (nI key)), none] [] (shp, σ1) = some (some (.int (bI true)), (shp, σ2)) := g
    simp only [if_true, if_false, Bool.or_eq_true, beq_iff_eq, show ¬ (3 : Nat) = 0 by decide, show ¬ (3 : Nat) = 1 by decide, show ¬ (3 : Nat) = 2 by decide] at hl
    show Rn E (D + 1) 181 10 [some (.ref 93), some (.int (nI key)), w] [] (shp, σ) = Rn E (D + 1) 181 10 [some (.ref 93), some (.int (nI key)), some (.int (nI (sgn tp tk)))] [] (shp, σ3)
    have hgo : Rn E (D + 1) 181 10 [some (.ref 93), some (.int (nI key)), w] [] (shp, σ) = Rn E (D + 1) 181 28 [some (.ref 93), some (.int (nI key)), w] [] (shp, σ) := by
      have q1 := hs 43 (by omega) (by omega)
      have q2 := hs 45 (by omega) (by omega)
      by_cases c0 : sgn tp tk = 43
      · rw [decide_eq_true c0] at q1
        rw [e181_10]
        simp (disch := omega) only [e181_11, e181_13, e181_16, ↓reduceIte, gM_0, a_94, inb_n, ix_n, if_true, ne_eq, Nat.reduceEqDiff, not_false_eq_true, vM, clK_s, tl_s, tl_n, clr_i, clr_n, clr_a, nI_add, q1, bI_0, Bool.true_eq_false, Bool.false_eq_true, not_true_eq_false, not_false_eq_true, if_false, reduceCtorEq]
      · rw [decide_eq_false c0] at q1
        have c1 : sgn tp tk = 45 := by omega
        rw [decide_eq_true c1] at q2
        rw [e181_10]
        simp (disch := omega) only [e181_11, e181_13, e181_16, e181_19, e181_20, e181_22, e181_25, ↓reduceIte, gM_0, a_94, inb_n, ix_n, if_true, ne_eq, Nat.reduceEqDiff, not_false_eq_true, vM, clK_s, tl_s, tl_n, clr_i, clr_n, clr_a, nI_add, q1, q2, bI_0, Bool.true_eq_false, Bool.false_eq_true, not_true_eq_false, not_false_eq_true, if_false, reduceCtorEq]
    rw [hgo]
    simp (disch := omega) only [e181_28, e181_29, e181_32, e181_33, e181_34, e181_37, e181_38, e181_39, e181_42, e181_45, e181_46, e181_47, e181_48, e181_49, e181_50, e181_53, ↓reduceIte, gM_0, a_94, inb_n, ix_n, if_true, ne_eq, Nat.reduceEqDiff, not_false_eq_true, vM, clK_s, tl_s, tl_n, clr_i, clr_n, clr_a, nI_add, gM_20, k20, y1, g', bI_0, Bool.true_eq_false, Bool.false_eq_true, not_true_eq_false, not_false_eq_true, if_false, reduceCtorEq, a]
  · have g' : Rn E D 183 0 [some (.ref 93), some (.int (nI key))] [] (shp, σ1) = some (some (.int (bI true)), (shp, σ2)) := g
    simp only [if_true, if_false, Bool.or_eq_true, beq_iff_eq, show ¬ (4 : Nat) = 0 by decide, show ¬ (4 : Nat) = 1 by decide, show ¬ (4 : Nat) = 2 by decide, show ¬ (4 : Nat) = 3 by decide] at hl
    show Rn E (D + 1) 182 10 [some (.ref 93), some (.int (nI key)), w] [] (shp, σ) = Rn E (D + 1) 182 10 [some (.ref 93), some (.int (nI key)), some (.int (nI (sgn tp tk)))] [] (shp, σ3)
    have hgo : Rn E (D + 1) 182 10 [some (.ref 93), some (.int (nI key)), w] [] (shp, σ) = Rn E (D + 1) 182 28 [some (.ref 93), some (.int (nI key)), w] [] (shp, σ) := by
      have q1 := hs 42 (by omega) (by omega)
      have q2 := hs 47 (by omega) (by omega)
      by_cases c0 : sgn tp tk = 42
      · rw [decide_eq_true c0] at q1
        rw [e182_10]
        simp (disch := omega) only [e182_11, e182_13, e182_16, ↓reduceIte, gM_0, a_94, inb_n, ix_n, if_true, ne_eq, Nat.reduceEqDiff, not_false_eq_true, vM, clK_s, tl_s, tl_n, clr_i, clr_n, clr_a, nI_add, q1, bI_0, Bool.true_eq_false, Bool.false_eq_true, not_true_eq_false, not_false_eq_true, if_false, reduceCtorEq]
      · rw [decide_eq_false c0] at q1
        have c1 : sgn tp tk = 47 := by omega
        rw [decide_eq_true c1] at q2
        rw [e182_10]
        simp (disch := omega) only [e182_11, e182_13, e182_16, e182_19, e182_20, e182_22, e182_25, ↓reduceIte, gM_0, a_94, inb_n, ix_n, if_true, ne_eq, Nat.reduceEqDiff, not_false_eq_true, vM, clK_s, tl_s, tl_n, clr_i, clr_n, clr_a, nI_add, q1, q2, bI_0, Bool.true_eq_false, Bool.false_eq_true, not_true_eq_false, not_false_eq_true, if_false, reduceCtorEq]
    rw [hgo]
    simp (disch := omega) only [e182_28, e182_29, e182_32, e182_33, e182_34, e182_37, e182_38, e182_39, e182_42, e182_45, e182_46, e182_47, e182_48, e182_49, e182_50, e182_53, ↓reduceIte, gM_0, a_94, inb_n, ix_n, if_true, ne_eq, Nat.reduceEqDiff, not_false_eq_true, vM, clK_s, tl_s, tl_n, clr_i, clr_n, clr_a, nI_add, gM_20, k20, y1, g', bI_0, Bool.true_eq_false, Bool.false_eq_true, not_true_eq_false, not_false_eq_true, if_false, reduceCtorEq, a]
end Kpf2
