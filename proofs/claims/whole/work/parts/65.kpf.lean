/-! THE REFERENCE READS: levels -/
def kM (lv : Nat) : Nat := 178 + lv
def kL (lv key : Nat) (w : Option Value) : aLo := if lv < 2 then [some (.ref 93), some (.int (nI key))] else if lv < 5 then [some (.ref 93), some (.int (nI key)), w] else [some (.ref 93), some (.int (nI key))]
def kN (nt dp : Nat) : Nat := 3 + 6 * (8 - dp) + (8 - nt)
def KO (σ : Nat → Nat → Int32) (n : Nat) (tp : Nat → Nat) (L nt dp : Nat) (r : Nat ⊕ PS) : Prop := match r with
  | .inl pz => σ 93 16 = nI pz
  | .inr s => KS σ n tp L nt dp s
def rB (r : Nat ⊕ PS) : Bool := match r with
  | .inl _ => false
  | .inr _ => true
def RK (n : Nat) (tp : Nat → Nat) (L nt dp : Nat) (r : Nat ⊕ PS) (σ : Nat → Nat → Int32) (X : Option aRs) : Prop := ∃ σ2, X = some (some (.int (bI (rB r))), (shp, σ2)) ∧ KF L σ σ2 ∧ KO σ2 n tp L nt dp r
section Kpf
variable {E : aE} {D n key L nt dp lv : Nat} {tp : Nat → Nat} {σ σ1 σ2 σ3 : Nat → Nat → Int32} {s : PS} {tk : Tk} {w : Option Value}
theorem RK.tr {r : Nat ⊕ PS} {X : Option aRs} (hf : KF L σ σ1) (hR : RK n tp L nt dp r σ1 X) : RK n tp L nt dp r σ X := by
  obtain ⟨σ2, g1, g2, g3⟩ := hR
  exact ⟨σ2, g1, hf.tr g2, g3⟩
theorem lv5 (h5 : lv < 5) : lv = 0 ∨ lv = 1 ∨ lv = 2 ∨ lv = 3 ∨ lv = 4 := by omega
theorem k_lvA (h5 : lv < 5) (g : Rn E D (kM (lv + 1)) 0 (kL (lv + 1) key none) [] (shp, σ) = some (some (.int (bI false)), (shp, σ1))) : Rn E (D + 1) (kM lv) 0 (kL lv key none) [] (shp, σ) = some (some (.int (bI false)), (shp, σ1)) := by
  rcases lv5 h5 with rfl | rfl | rfl | rfl | rfl
  · have g' : Rn E D 179 0 [some (.ref 93), some (.int (nI key))] [] (shp, σ) = some (some (.int (bI false)), (shp, σ1)) := g
    show Rn E (D + 1) 178 0 [some (.ref 93), some (.int (nI key))] [] (shp, σ) = _
    simp (disch := omega) only [e178_0, e178_1, e178_2, e178_5, e178_8, e178_9, ↓reduceIte, gM_0, a_94, inb_n, ix_n, if_true, ne_eq, Nat.reduceEqDiff, not_false_eq_true, vM, clK_s, tl_s, tl_n, clr_i, clr_n, clr_a, nI_add, g', bI_0, Bool.true_eq_false, Bool.false_eq_true, not_true_eq_false, not_false_eq_true, if_false, reduceCtorEq, rz_0]
  · have g' : Rn E D 180 0 [some (.ref 93), some (.int (nI key)), none] [] (shp, σ) = some (some (.int (bI false)), (shp, σ1)) := g
    show Rn E (D + 1) 179 0 [some (.ref 93), some (.int (nI key))] [] (shp, σ) = _
    simp (disch := omega) only [e179_0, e179_1, e179_2, e179_5, e179_8, e179_9, ↓reduceIte, gM_0, a_94, inb_n, ix_n, if_true, ne_eq, Nat.reduceEqDiff, not_false_eq_true, vM, clK_s, tl_s, tl_n, clr_i, clr_n, clr_a, nI_add, g', bI_0, Bool.true_eq_false, Bool.false_eq_true, not_true_eq_false, not_false_eq_true, if_false, reduceCtorEq, rz_0]
  · have g' : Rn E D 181 0 [some (.ref 93), some (.int (nI key)), none] [] (shp, σ) = some (some (.int (bI false)), (shp, σ1)) := g
    show Rn E (D + 1) 180 0 [some (.ref 93), some (.int (nI key)), none] [] (shp, σ) = _
    simp (disch := omega) only [e180_0, e180_1, e180_2, e180_5, e180_8, e180_9, ↓reduceIte, gM_0, a_94, inb_n, ix_n, if_true, ne_eq, Nat.reduceEqDiff, not_false_eq_true, vM, clK_s, tl_s, tl_n, clr_i, clr_n, clr_a, nI_add, g', bI_0, Bool.true_eq_false, Bool.false_eq_true, not_true_eq_false, not_false_eq_true, if_false, reduceCtorEq, rz_0]
  · have g' : Rn E D 182 0 [some (.ref 93), some (.int (nI key)), none] [] (shp, σ) = some (some (.int (bI false)), (shp, σ1)) := g
    show Rn E (D + 1) 181 0 [some (.ref 93), some (.int (nI key)), none] [] (shp, σ) = _
    simp (disch := omega) only [e181_0, e181_1, e181_2, e181_5, e181_8, e181_9, ↓reduceIte, gM_0, a_94, inb_n, ix_n, if_true, ne_eq, Nat.reduceEqDiff, not_false_eq_true, vM, clK_s, tl_s, tl_n, clr_i, clr_n, clr_a, nI_add, g', bI_0, Bool.true_eq_false, Bool.false_eq_true, not_true_eq_false, not_false_eq_true, if_false, reduceCtorEq, rz_0]
  · have g' : Rn E D 183 0 [some (.ref 93), some (.int (nI key))] [] (shp, σ) = some (some (.int (bI false)), (shp, σ1)) := g
    show Rn E (D + 1) 182 0 [some (.ref 93), some (.int (nI key)), none] [] (shp, σ) = _
    simp (disch := omega) only [e182_0, e182_1, e182_2, e182_5, e182_8, e182_9, ↓reduceIte, gM_0, a_94, inb_n, ix_n, if_true, ne_eq, Nat.reduceEqDiff, not_false_eq_true, vM, clK_s, tl_s, tl_n, clr_i, clr_n, clr_a, nI_add, g', bI_0, Bool.true_eq_false, Bool.false_eq_true, not_true_eq_false, not_false_eq_true, if_false, reduceCtorEq, rz_0]
theorem k_lvB (h5 : lv < 5) (g : Rn E D (kM (lv + 1)) 0 (kL (lv + 1) key none) [] (shp, σ) = some (some (.int (bI true)), (shp, σ1))) : Rn E (D + 1) (kM lv) 0 (kL lv key none) [] (shp, σ) = Rn E (D + 1) (kM lv) 10 (kL lv key none) [] (shp, σ1) := by
  rcases lv5 h5 with rfl | rfl | rfl | rfl | rfl
  · have g' : Rn E D 179 0 [some (.ref 93), some (.int (nI key))] [] (shp, σ) = some (some (.int (bI true)), (shp, σ1)) := g
    show Rn E (D + 1) 178 0 [some (.ref 93), some (.int (nI key))] [] (shp, σ) = Rn E (D + 1) 178 10 [some (.ref 93), some (.int (nI key))] [] (shp, σ1)
    simp (disch := omega) only [e178_0, e178_1, e178_2, e178_5, ↓reduceIte, gM_0, a_94, inb_n, ix_n, if_true, ne_eq, Nat.reduceEqDiff, not_false_eq_true, vM, clK_s, tl_s, tl_n, clr_i, clr_n, clr_a, nI_add, g', bI_0, Bool.true_eq_false, Bool.false_eq_true, not_true_eq_false, not_false_eq_true, if_false, reduceCtorEq]
  · have g' : Rn E D 180 0 [some (.ref 93), some (.int (nI key)), none] [] (shp, σ) = some (some (.int (bI true)), (shp, σ1)) := g
    show Rn E (D + 1) 179 0 [some (.ref 93), some (.int (nI key))] [] (shp, σ) = Rn E (D + 1) 179 10 [some (.ref 93), some (.int (nI key))] [] (shp, σ1)
    simp (disch := omega) only [e179_0, e179_1, e179_2, e179_5, ↓reduceIte, gM_0, a_94, inb_n, ix_n, if_true, ne_eq, Nat.reduceEqDiff, not_false_eq_true, vM, clK_s, tl_s, tl_n, clr_i, clr_n, clr_a, nI_add, g', bI_0, Bool.true_eq_false, Bool.false_eq_true, not_true_eq_false, not_false_eq_true, if_false, reduceCtorEq]
  · have g' : Rn E D 181 0 [some (.ref 93), some (.int (nI key)), none] [] (shp, σ) = some (some (.int (bI true)), (shp, σ1)) := g
    show Rn E (D + 1) 180 0 [some (.ref 93), some (.int (nI key)), none] [] (shp, σ) = Rn E (D + 1) 180 10 [some (.ref 93), some (.int (nI key)), none] [] (shp, σ1)
    simp (disch := omega) only [e180_0, e180_1, e180_2, e180_5, ↓reduceIte, gM_0, a_94, inb_n, ix_n, if_true, ne_eq, Nat.reduceEqDiff, not_false_eq_true, vM, clK_s, tl_s, tl_n, clr_i, clr_n, clr_a, nI_add, g', bI_0, Bool.true_eq_false, Bool.false_eq_true, not_true_eq_false, not_false_eq_true, if_false, reduceCtorEq]
  · have g' : Rn E D 182 0 [some (.ref 93), some (.int (nI key)), none] [] (shp, σ) = some (some (.int (bI true)), (shp, σ1)) := g
    show Rn E (D + 1) 181 0 [some (.ref 93), some (.int (nI key)), none] [] (shp, σ) = Rn E (D + 1) 181 10 [some (.ref 93), some (.int (nI key)), none] [] (shp, σ1)
    simp (disch := omega) only [e181_0, e181_1, e181_2, e181_5, ↓reduceIte, gM_0, a_94, inb_n, ix_n, if_true, ne_eq, Nat.reduceEqDiff, not_false_eq_true, vM, clK_s, tl_s, tl_n, clr_i, clr_n, clr_a, nI_add, g', bI_0, Bool.true_eq_false, Bool.false_eq_true, not_true_eq_false, not_false_eq_true, if_false, reduceCtorEq]
  · have g' : Rn E D 183 0 [some (.ref 93), some (.int (nI key))] [] (shp, σ) = some (some (.int (bI true)), (shp, σ1)) := g
    show Rn E (D + 1) 182 0 [some (.ref 93), some (.int (nI key)), none] [] (shp, σ) = Rn E (D + 1) 182 10 [some (.ref 93), some (.int (nI key)), none] [] (shp, σ1)
    simp (disch := omega) only [e182_0, e182_1, e182_2, e182_5, ↓reduceIte, gM_0, a_94, inb_n, ix_n, if_true, ne_eq, Nat.reduceEqDiff, not_false_eq_true, vM, clK_s, tl_s, tl_n, clr_i, clr_n, clr_a, nI_add, g', bI_0, Bool.true_eq_false, Bool.false_eq_true, not_true_eq_false, not_false_eq_true, if_false, reduceCtorEq]
theorem k_lpN (h5 : lv < 5) (hK : KP σ n tp) (hT : KT σ tp tk) (hw : tkW tp n tk) (hl : lvS lv (sgn tp tk) = false) : Rn E (D + 1) (kM lv) 10 (kL lv key w) [] (shp, σ) = some (some (.int (bI true)), (shp, σ)) := by
  have hs : ∀ cz, 0 < cz → cz < 128 → Rn E D 173 0 [some (.ref 93), some (.int (nI cz))] [] (shp, σ) = some (some (.int (bI (decide (sgn tp tk = cz)))), (shp, σ)) := fun cz h0 hc => k_isSign hK hT hw h0 hc
  unfold lvS at hl
  rcases lv5 h5 with rfl | rfl | rfl | rfl | rfl
  · simp only [if_true, beq_eq_false_iff_ne, ne_eq] at hl
    have q1 := hs 124 (by omega) (by omega)
    rw [decide_eq_false hl] at q1
    show Rn E (D + 1) 178 10 [some (.ref 93), some (.int (nI key))] [] (shp, σ) = _
    rw [e178_10]
    simp (disch := omega) only [e178_11, e178_13, e178_16, e178_43, e178_44, ↓reduceIte, gM_0, a_94, inb_n, ix_n, if_true, ne_eq, Nat.reduceEqDiff, not_false_eq_true, vM, clK_s, tl_s, tl_n, clr_i, clr_n, clr_a, nI_add, q1, bI_0, Bool.true_eq_false, Bool.false_eq_true, not_true_eq_false, not_false_eq_true, if_false, reduceCtorEq, rz_1]
  · simp only [if_false, if_true, beq_eq_false_iff_ne, ne_eq, show ¬ (1 : Nat) = 0 by decide] at hl
    have q1 := hs 38 (by omega) (by omega)
    rw [decide_eq_false hl] at q1
    show Rn E (D + 1) 179 10 [some (.ref 93), some (.int (nI key))] [] (shp, σ) = _
    rw [e179_10]
    simp (disch := omega) only [e179_11, e179_13, e179_16, e179_43, e179_44, ↓reduceIte, gM_0, a_94, inb_n, ix_n, if_true, ne_eq, Nat.reduceEqDiff, not_false_eq_true, vM, clK_s, tl_s, tl_n, clr_i, clr_n, clr_a, nI_add, q1, bI_0, Bool.true_eq_false, Bool.false_eq_true, not_true_eq_false, not_false_eq_true, if_false, reduceCtorEq, rz_1]
  · simp only [if_false, if_true, Bool.or_eq_false_iff, beq_eq_false_iff_ne, ne_eq, show ¬ (2 : Nat) = 0 by decide, show ¬ (2 : Nat) = 1 by decide] at hl
    have q1 := hs 60 (by omega) (by omega)
    have q2 := hs 61 (by omega) (by omega)
    have q3 := hs 62 (by omega) (by omega)
    rw [decide_eq_false hl.1.1] at q1
    rw [decide_eq_false hl.1.2] at q2
    rw [decide_eq_false hl.2] at q3
    show Rn E (D + 1) 180 10 [some (.ref 93), some (.int (nI key)), w] [] (shp, σ) = _
    simp (disch := omega) only [e180_10, e180_11, e180_13, e180_16, e180_19, e180_20, e180_22, e180_25, e180_28, e180_29, e180_31, e180_34, e180_62, e180_63, ↓reduceIte, gM_0, a_94, inb_n, ix_n, if_true, ne_eq, Nat.reduceEqDiff, not_false_eq_true, vM, clK_s, tl_s, tl_n, clr_i, clr_n, clr_a, nI_add, q1, q2, q3, bI_0, Bool.true_eq_false, Bool.false_eq_true, not_true_eq_false, not_false_eq_true, if_false, reduceCtorEq, rz_1]
  · simp only [if_false, if_true, Bool.or_eq_false_iff, beq_eq_false_iff_ne, ne_eq, show ¬ (3 : Nat) = 0 by decide, show ¬ (3 : Nat) = 1 by decide, show ¬ (3 : Nat) = 2 by decide] at hl
    have q1 := hs 43 (by omega) (by omega)
    have q2 := hs 45 (by omega) (by omega)
    rw [decide_eq_false hl.1] at q1
    rw [decide_eq_false hl.2] at q2
    show Rn E (D + 1) 181 10 [some (.ref 93), some (.int (nI key)), w] [] (shp, σ) = _
    rw [e181_10]
    simp (disch := omega) only [e181_11, e181_13, e181_16, e181_19, e181_20, e181_22, e181_25, e181_56, e181_57, ↓reduceIte, gM_0, a_94, inb_n, ix_n, if_true, ne_eq, Nat.reduceEqDiff, not_false_eq_true, vM, clK_s, tl_s, tl_n, clr_i, clr_n, clr_a, nI_add, q1, q2, bI_0, Bool.true_eq_false, Bool.false_eq_true, not_true_eq_false, not_false_eq_true, if_false, reduceCtorEq, rz_1]
  · simp only [if_false, Bool.or_eq_false_iff, beq_eq_false_iff_ne, ne_eq, show ¬ (4 : Nat) = 0 by decide, show ¬ (4 : Nat) = 1 by decide, show ¬ (4 : Nat) = 2 by decide, show ¬ (4 : Nat) = 3 by decide] at hl
    have q1 := hs 42 (by omega) (by omega)
    have q2 := hs 47 (by omega) (by omega)
    rw [decide_eq_false hl.1] at q1
    rw [decide_eq_false hl.2] at q2
    show Rn E (D + 1) 182 10 [some (.ref 93), some (.int (nI key)), w] [] (shp, σ) = _
    rw [e182_10]
    simp (disch := omega) only [e182_11, e182_13, e182_16, e182_19, e182_20, e182_22, e182_25, e182_56, e182_57, ↓reduceIte, gM_0, a_94, inb_n, ix_n, if_true, ne_eq, Nat.reduceEqDiff, not_false_eq_true, vM, clK_s, tl_s, tl_n, clr_i, clr_n, clr_a, nI_add, q1, q2, bI_0, Bool.true_eq_false, Bool.false_eq_true, not_true_eq_false, not_false_eq_true, if_false, reduceCtorEq, rz_1]
end Kpf
