/-! TEXTS OUTSIDE: length, a character, where a character stands -/
def sX (h : Nat) : List Int32 := strX.getD (h + 20 - 1030) []
def ixN : List Int32 → Int32 → Nat → Int32
  | [], _, _ => (-1)
  | a :: r, xv, i => if a = xv then nI i else ixN r xv (i + 1)
abbrev isStr (h : Nat) : Prop := 1010 ≤ h ∧ h < 1021
theorem sX_c : ∀ j, j < 11 → (0 < (sX (1010 + j)).length ∧ (sX (1010 + j)).length ≤ 4 ∧ ∀ i, i < 4 → ((((sX (1010 + j)).getD i 0 &&& nI 255).toUInt32 % 65536).toInt32 = (sX (1010 + j)).getD i 0 ∧ rok (some .char) ((sX (1010 + j)).getD i 0) = true)) := by decide +kernel
theorem sX_l {h : Nat} (h1 : isStr h) : 0 < (sX h).length ∧ (sX h).length ≤ 4 ∧ ∀ i, i < 4 → ((((sX h).getD i 0 &&& nI 255).toUInt32 % 65536).toInt32 = (sX h).getD i 0 ∧ rok (some .char) ((sX h).getD i 0) = true) := by
  have h2 := h1.1
  have h3 := h1.2
  have := sX_c (h - 1010) (by omega)
  rw [show 1010 + (h - 1010) = h by omega] at this
  exact this
section Str
variable {E : aE} {d : Nat} {σ : Nat → Nat → Int32}
theorem shp_no {h : Nat} (h1 : 1010 ≤ h) : shp[h]? = none := List.getElem?_eq_none (by rw [sh_len]; omega)
theorem vSt {h : Nat} {xx : Option aRs} {K : Option Value → aSt → Option aRs} (h1 : isStr h) : clV (shp, σ) h 9 xx K = clK xx K := by
  have h2 := h1.1
  have h3 := h1.2
  unfold clV rcv
  rw [shp_no h2]
  rw [if_pos]
  simp only [Bool.and_eq_true, decide_eq_true_eq]
  exact ⟨⟨h2, h3⟩, rfl⟩
theorem bSt {h i : Nat} {K : Value → Option aRs} (h1 : isStr h) (hi : i < (sX h).length) : bld (shp, σ) (h + 20) (nI i) K = K (.int ((sX h).getD i 0)) := by
  have h2 := h1.1
  have h3 := h1.2
  have h4 := (sX_l h1).2.1
  have e1 : rdB (shp, σ) (h + 20) (nI i) = some ((sX h).getD i 0) := by
    unfold rdB
    rw [shp_no (show 1010 ≤ h + 20 by omega)]
    show (if _ then _ else _) = _
    rw [if_pos ⟨by omega, by omega, inb_n (n := (sX h).length) hi (by omega)⟩, ix_n (by omega)]
    rfl
  unfold bld
  rw [e1]
theorem sX_n {h : Nat} : Int32.ofNat (strX.getD (h + 20 - 1030) []).length = nI (sX h).length := rfl
theorem rok_b0 : rok (some .byte) 0 = true := by decide +kernel
theorem i1_0 : ¬ (1 : Int32) = nI 0 := by decide +kernel
theorem i0_0 : (0 : Int32) = nI 0 := by decide +kernel
theorem shz_0 {xv : Int32} : xv >>> ((0 : Int32) &&& 31) = xv := by
  rw [show ((0 : Int32) &&& 31) = 0 from by decide +kernel]
  exact Int32.shiftRight_zero
theorem j_coder {h : Nat} (h1 : isStr h) : Rn E d 215 0 [some (.ref h)] [] (shp, σ) = some (some (.int 0), (shp, σ)) := by
  simp (disch := first | exact h1 | exact rok_b0) only [e215_0, e215_3, e215_6, e215_7, e215_10, e215_13, e215_14, i1_0, ↓reduceIte, if_false]
theorem j_lat {h : Nat} (h1 : isStr h) : Rn E d 216 0 [some (.ref h)] [] (shp, σ) = some (some (.int (bI true)), (shp, σ)) := by
  simp (disch := exact h1) only [e216_0, e216_3, e216_6, e216_7, e216_10, e216_13, e216_14, e216_17, e216_18, i1_0, i0_0, not_true_eq_false, ↓reduceIte, if_false, rz_1]
theorem j_length {h : Nat} (h1 : isStr h) : Rn E (d + 1) 211 0 [some (.ref h)] [] (shp, σ) = some (some (.int (nI (sX h).length)), (shp, σ)) := by
  have h2 := h1.1
  have h3 := h1.2
  have h4 : 1030 ≤ h + 20 ∧ h + 20 < 1041 := ⟨by omega, by omega⟩
  simp (disch := first | exact h1 | exact h4) only [e211_0, e211_1, e211_4, e211_5, e211_6, e211_9, e211_10, vSt, j_coder h1, clK_s, tl_s, sX_n, shz_0]
theorem j_find {h : Nat} {xv x0 : Int32} {w1 : Int32} (h1 : isStr h) : ∀ (l : List Int32) (i : Nat), (sX h).drop i = l → i ≤ (sX h).length → Rn E d 221 7 [some (.ref (h + 20)), some (.int x0), some (.int w1), some (.int (nI (sX h).length)), some (.int xv), some (.int (nI i))] [] (shp, σ) = some (some (.int (ixN l xv i)), (shp, σ)) := by
  have h4 := (sX_l h1).2.1
  intro l
  induction l with
  | nil =>
    intro i hd hi
    have hl : (sX h).length ≤ i := List.drop_eq_nil_iff.mp hd
    rw [e221_7]
    simp (disch := omega) only [e221_9, e221_10, nI_leI, hl, if_true, e221_31, e221_32, ixN]
  | cons a r ih =>
    intro i hd hi
    have hlt : i < (sX h).length := by
      rcases Nat.lt_or_ge i (sX h).length with hq | hq
      · exact hq
      · rw [List.drop_eq_nil_of_le hq] at hd; cases hd
    have hn : ¬ (sX h).length ≤ i := by omega
    have ha : (sX h).getD i 0 = a := by
      rw [List.drop_eq_getElem_cons hlt] at hd
      rw [List.getD_eq_getElem?_getD, List.getElem?_eq_getElem hlt]
      exact (List.cons.inj hd).1
    have hr : (sX h).drop (i + 1) = r := by
      rw [List.drop_eq_getElem_cons hlt] at hd
      exact (List.cons.inj hd).2
    rw [e221_7]
    unfold ixN
    by_cases hq : a = xv
    · simp (disch := omega) only [e221_9, e221_10, e221_13, e221_14, e221_16, e221_17, e221_19, e221_22, e221_24, nI_leI, hn, if_false, bSt h1 hlt, ha, hq, not_true_eq_false, if_true]
    · simp (disch := omega) only [e221_9, e221_10, e221_13, e221_14, e221_16, e221_17, e221_19, e221_22, e221_24, e221_25, e221_28, nI_leI, hn, if_false, bSt h1 hlt, ha, hq, not_false_eq_true, if_true, clr_i, nI_add, ih (i + 1) hr (by omega)]
theorem imin_self {xv : Int32} : imin xv xv = xv := by
  unfold imin
  split <;> rfl
theorem im00 : imax (nI 0) (nI 0) = nI 0 := by decide +kernel
theorem j_index {h cz : Nat} (h1 : isStr h) (hc : cz < 128) : Rn E (d + 3) 213 0 [some (.ref h), some (.int (nI cz))] [] (shp, σ) = some (some (.int (ixN (sX h) (nI cz) 0)), (shp, σ)) := by
  have h2 := h1.1
  have h3 := h1.2
  have h4 : 1030 ≤ h + 20 ∧ h + 20 < 1041 := ⟨by omega, by omega⟩
  obtain ⟨h5, h6, h7⟩ := sX_l h1
  have n1 : ¬ nI cz < nI 0 := nI_nlt (by omega) (by omega)
  have n2 : ¬ nI 255 < nI cz := nI_nlt (by omega) (by omega)
  have n3 : nI 0 < nI (sX h).length := nI_lt h5 (by omega)
  have e8 : (nI cz).toInt8.toInt32 = nI cz := (s8_eq cz (by omega) cz hc).mpr rfl
  have a0 : ∀ d, Rn E d 219 0 [some (.int (nI cz))] [] (shp, σ) = some (some (.int (bI true)), (shp, σ)) := by
    intro d
    simp (disch := omega) only [e219_0, e219_1, e219_4, e219_5, e219_8, e219_11, e219_12, e219_15, e219_16, n1, n2, if_false, rz_1]
  have a1 : Rn E d 221 0 [some (.ref (h + 20)), some (.int (nI cz)), some (.int (nI 0)), some (.int (nI (sX h).length)), none, none] [] (shp, σ) = some (some (.int (ixN (sX h) (nI cz) 0)), (shp, σ)) := by
    rw [← j_find (E := E) (d := d) (σ := σ) (xv := nI cz) (x0 := nI cz) (w1 := nI 0) h1 (sX h) 0 rfl (by omega)]
    simp only [e221_0, e221_1, e221_2, e221_4, e221_5, e8, clr_i, clr_n]
  have a2 : Rn E (d + 1) 220 0 [some (.ref (h + 20)), some (.int (nI cz)), some (.int (nI 0)), some (.int (nI (sX h).length))] [] (shp, σ) = some (some (.int (ixN (sX h) (nI cz) 0)), (shp, σ)) := by
    simp (disch := first | exact h4 | omega) only [e220_0, e220_1, e220_4, e220_7, e220_8, e220_9, e220_10, e220_11, e220_14, e220_15, e220_16, e220_17, e220_18, e220_21, e220_22, e220_23, e220_24, e220_27, e220_28, e220_29, e220_30, e220_31, e220_32, e220_33, e220_36, ↓reduceIte, a0, a1, clK_s, tl_s, bI_0, Bool.true_eq_false, Bool.false_eq_true, not_true_eq_false, not_false_eq_true, if_false, reduceCtorEq, im00, sX_n, imin_self, clr_i, n3, if_true]
  have a3 : Rn E (d + 2) 214 0 [some (.ref h), some (.int (nI cz)), some (.int (nI 0))] [] (shp, σ) = some (some (.int (ixN (sX h) (nI cz) 0)), (shp, σ)) := by
    simp (disch := first | exact h1 | omega) only [e214_0, e214_1, e214_4, e214_7, e214_8, e214_11, e214_12, e214_13, e214_14, e214_17, e214_20, e214_23, e214_24, e214_27, e214_28, e214_29, e214_30, e214_36, ↓reduceIte, vSt, j_lat h1, j_length h1, a2, clK_s, tl_s, bI_0, Bool.true_eq_false, Bool.false_eq_true, not_true_eq_false, not_false_eq_true, if_false, reduceCtorEq]
  simp (disch := first | exact h1 | omega) only [e213_0, e213_1, e213_2, e213_3, e213_6, vSt, a3, clK_s, tl_s]
theorem j_charAt {h i : Nat} (h1 : isStr h) (hi : i < (sX h).length) : Rn E (d + 3) 212 0 [some (.ref h), some (.int (nI i))] [] (shp, σ) = some (some (.int ((sX h).getD i 0)), (shp, σ)) := by
  have h2 := h1.1
  have h3 := h1.2
  have h4 : 1030 ≤ h + 20 ∧ h + 20 < 1041 := ⟨by omega, by omega⟩
  obtain ⟨h5, h6, h7⟩ := sX_l h1
  obtain ⟨h8, h9⟩ := h7 i (by omega)
  have n1 : ¬ nI i < nI 0 := nI_nlt (by omega) (by omega)
  have n3 : nI i < nI (sX h).length := nI_lt hi (by omega)
  have a0 : Rn E d 222 0 [some (.int (nI i)), some (.int (nI (sX h).length)), some (.retAddr 0)] [] (shp, σ) = some (some (.int (nI i)), (shp, σ)) := by
    simp only [e222_0, e222_1, e222_4, e222_5, e222_6, e222_9, e222_10, e222_11, e222_16, e222_17, n1, n3, if_false, if_true]
  have a1 : Rn E (d + 1) 217 0 [some (.int (nI i)), some (.int (nI (sX h).length))] [] (shp, σ) = some (none, (shp, σ)) := by
    simp only [e217_0, e217_1, e217_2, e217_5, e217_8, e217_9, a0, clK_s, tl_s]
  have a2 : Rn E (d + 2) 218 0 [some (.ref (h + 20)), some (.int (nI i))] [] (shp, σ) = some (some (.int ((sX h).getD i 0)), (shp, σ)) := by
    simp (disch := first | exact h4 | exact h9 | omega) only [e218_0, e218_1, e218_2, e218_3, e218_6, e218_7, e218_8, e218_9, e218_12, e218_13, e218_14, sX_n, a1, clK_s, tl_n, bSt h1 hi, h8]
  simp (disch := first | exact h1 | exact h9 | omega) only [e212_0, e212_1, e212_4, e212_7, e212_8, e212_11, e212_12, e212_15, e212_16, e212_17, e212_20, ↓reduceIte, vSt, j_lat h1, a2, clK_s, tl_s, bI_0, Bool.true_eq_false, Bool.false_eq_true, not_true_eq_false, not_false_eq_true, if_false, reduceCtorEq]
end Str
