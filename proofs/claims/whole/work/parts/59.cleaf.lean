/-! THE CLASS READS: its small steps -/
theorem su_p {σ : Nat → Nat → Int32} {a b i j : Nat} {xv : Int32} (h : a ≠ b ∨ i ≠ j) : su σ a i xv b j = σ b j := by
  rcases h with h | h
  · rw [su_row (fun z => h z.symm)]
  · by_cases hb : b = a
    · rw [hb, su_rf, pk_un (fun z => h z.symm)]
    · rw [su_row hb]
theorem s8_n : ∀ bz, bz < 128 → (nI bz).toInt8.toInt32 = nI bz := fun bz h => (s8_eq bz (by omega) bz h).mpr rfl
theorem s8_le : ∀ bz, bz < 256 → ((nI bz).toInt8.toInt32 ≤ nI 0 ↔ bz = 0 ∨ 128 ≤ bz) := by decide +kernel
theorem i2c_n : ∀ bz, bz < 128 → ((nI bz).toUInt32 % 65536).toInt32 = nI bz := by decide +kernel
theorem ix_lv : ∀ lv, lv < 5 → ∀ bz, bz < 128 → (ixN (sX (1013 + lv)) (nI bz) 0 < nI 0 ↔ lvS lv bz = false) := by decide +kernel
theorem ix_nm : ∀ key, key < 3 → ∀ bz, bz < 128 → ((nmK key bz = false → ixN (sX (1018 + key)) (nI bz) 0 = (-1)) ∧ (nmK key bz = true → ¬ ixN (sX (1018 + key)) (nI bz) 0 < nI 0 ∧ (-1) - ixN (sX (1018 + key)) (nI bz) 0 = nmX key (nI bz))) := by decide +kernel
section Cleaf
variable {E : aE} {D n key : Nat} {tp : Nat → Nat} {σ : Nat → Nat → Int32} {tk : Tk} {h : Nat}
theorem TP.at {i : Nat} (hT : TP σ n tp) (hi : i < n) : tp i < 256 ∧ σ 35 i = (nI (tp i)).toInt8.toInt32 := hT.2.2 i hi
theorem c_nextD (hD : 1 ≤ D) (hT : TP σ n tp) (hC : CT σ tk) (hw : tkW tp n tk) : ∃ σ2, Rn E D 10 0 [some (.ref 34), none, none, none] [] (shp, σ) = some (none, (shp, σ2)) ∧ Fr [34] σ σ2 ∧ (∀ i, i ≠ 2 → i ≠ 3 → i ≠ 4 → σ2 34 i = σ 34 i) ∧ CT σ2 (tok tp n tk) := by
  obtain ⟨d, rfl⟩ : ∃ d, D = d + 1 := ⟨D - 1, by omega⟩
  exact c_next hT hC.1 hC.2.2 hw.2.1 hw.2.2.1
theorem c_isSign {cz : Nat} (hT : TP σ n tp) (hC : CT σ tk) (hw : tkW tp n tk) (h0 : 0 < cz) (hc : cz < 128) : Rn E D 13 0 [some (.ref 34), some (.int (nI cz))] [] (shp, σ) = some (some (.int (bI (decide (sgn tp tk = cz)))), (shp, σ)) := by
  obtain ⟨k1, k2, k3⟩ := hC
  obtain ⟨w1, w2, w3, w4, w5, w6⟩ := hw
  have h96 := hT.1
  by_cases h3 : tk.1 = 3
  · obtain ⟨hb, eb⟩ := hT.at (show tk.2.1 < n by omega)
    have hs : sgn tp tk = tp tk.2.1 := by unfold sgn; rw [if_pos h3]
    have q := s8_eq (tp tk.2.1) hb cz hc
    rw [h3] at k1
    by_cases hq : tp tk.2.1 = cz
    · rw [hs, decide_eq_true hq]
      simp (disch := omega) only [e13_0, e13_1, e13_4, e13_5, e13_8, e13_9, e13_12, e13_13, e13_16, ↓reduceIte, inb_n, ix_n, if_true, ne_eq, Nat.reduceEqDiff, not_false_eq_true, clK_s, tl_s, tl_n, clr_i, clr_n, clr_a, nI_add, gR_0, gR_2, gR_3, k1, k2, not_true_eq_false, b_35, eb]
      simp (disch := omega) only [e13_17, e13_18, e13_21, e13_22, e13_25, e13_26, ↓reduceIte, inb_n, ix_n, if_true, ne_eq, Nat.reduceEqDiff, not_false_eq_true, clK_s, tl_s, tl_n, clr_i, clr_n, clr_a, nI_add, q.mpr hq, not_true_eq_false, rz_1]
    · have hq' : ¬ (nI (tp tk.2.1)).toInt8.toInt32 = nI cz := fun z => hq (q.mp z)
      rw [hs, decide_eq_false hq]
      simp (disch := omega) only [e13_0, e13_1, e13_4, e13_5, e13_8, e13_9, e13_12, e13_13, e13_16, e13_17, e13_18, e13_21, e13_22, e13_25, e13_26, ↓reduceIte, inb_n, ix_n, if_true, ne_eq, Nat.reduceEqDiff, not_false_eq_true, clK_s, tl_s, tl_n, clr_i, clr_n, clr_a, nI_add, gR_0, gR_2, gR_3, k1, k2, not_true_eq_false, b_35, eb, hq', rz_0]
  · have h3' : ¬ nI tk.1 = nI 3 := fun z => h3 ((nI_eq (by omega) (by omega)).mp z)
    have hs : sgn tp tk = 0 := by unfold sgn; rw [if_neg h3]
    rw [hs, decide_eq_false (by omega)]
    simp (disch := omega) only [e13_0, e13_1, e13_4, e13_5, e13_8, e13_9, e13_12, e13_13, e13_16, e13_17, e13_18, e13_21, e13_22, e13_25, e13_26, ↓reduceIte, inb_n, ix_n, if_true, ne_eq, Nat.reduceEqDiff, not_false_eq_true, clK_s, tl_s, tl_n, clr_i, clr_n, clr_a, nI_add, gR_2, k1, h3', rz_0]
theorem c_isSign4 {cv : Int32} (h4 : σ 34 2 = nI 4) : Rn E D 13 0 [some (.ref 34), some (.int cv)] [] (shp, σ) = some (some (.int (bI false)), (shp, σ)) := by
  have h3' : ¬ nI 4 = nI 3 := by decide +kernel
  simp (disch := omega) only [e13_0, e13_1, e13_4, e13_5, e13_8, e13_9, e13_12, e13_13, e13_16, e13_17, e13_18, e13_21, e13_22, e13_25, e13_26, ↓reduceIte, inb_n, ix_n, if_true, ne_eq, Nat.reduceEqDiff, not_false_eq_true, clK_s, tl_s, tl_n, clr_i, clr_n, clr_a, nI_add, gR_2, h4, h3', rz_0]
theorem c_isSignOf4 {lv : Int32} (h4 : σ 34 2 = nI 4) : Rn E D 16 0 [some (.ref 34), some (.int lv)] [] (shp, σ) = some (some (.int (bI false)), (shp, σ)) := by
  have h3' : ¬ nI 4 = nI 3 := by decide +kernel
  simp (disch := omega) only [e16_0, e16_1, e16_4, e16_5, e16_8, e16_9, e16_12, e16_13, e16_16, e16_17, e16_20, e16_21, e16_24, e16_25, e16_28, e16_29, e16_32, e16_33, e16_34, e16_37, e16_40, e16_41, e16_44, e16_45, ↓reduceIte, inb_n, ix_n, if_true, ne_eq, Nat.reduceEqDiff, not_false_eq_true, clK_s, tl_s, tl_n, clr_i, clr_n, clr_a, nI_add, gR_2, h4, h3', rz_0]
theorem c_signsOf {lv : Nat} (h5 : lv < 5) : Rn E D 15 0 [some (.int (nI lv))] [] (shp, σ) = some (some (.ref (1013 + lv)), (shp, σ)) := by
  rw [e15_0, e15_1, swZ_eq _ _ _ _ _ (by decide), nI_toInt (by omega)]
  have : lv = 0 ∨ lv = 1 ∨ lv = 2 ∨ lv = 3 ∨ lv = 4 := by omega
  rcases this with rfl | rfl | rfl | rfl | rfl
  · rw [if_neg (by decide)]; show Rn E D _ 32 _ _ _ = _; rw [e15_32, e15_34]
  · rw [if_neg (by decide)]; show Rn E D _ 35 _ _ _ = _; rw [e15_35, e15_37]
  · rw [if_neg (by decide)]; show Rn E D _ 38 _ _ _ = _; rw [e15_38, e15_40]
  · rw [if_neg (by decide)]; show Rn E D _ 41 _ _ _ = _; rw [e15_41, e15_43]
  · rw [if_pos (by decide), e15_44, e15_46]
theorem lvS_no {lv bz : Nat} (hb : bz = 0 ∨ 128 ≤ bz) : lvS lv bz = false := by
  cases hq : lvS lv bz with
  | false => rfl
  | true => have := (lvS_ok hq).2.2; omega
theorem c_isSignOf {lv : Nat} (hD : 4 ≤ D) (hT : TP σ n tp) (hC : CT σ tk) (hw : tkW tp n tk) (h5 : lv < 5) : Rn E D 16 0 [some (.ref 34), some (.int (nI lv))] [] (shp, σ) = some (some (.int (bI (lvS lv (sgn tp tk)))), (shp, σ)) := by
  obtain ⟨d, rfl⟩ : ∃ d, D = d + 3 + 1 := ⟨D - 4, by omega⟩
  obtain ⟨k1, k2, k3⟩ := hC
  obtain ⟨w1, w2, w3, w4, w5, w6⟩ := hw
  have h96 := hT.1
  by_cases h3 : tk.1 = 3
  · obtain ⟨hb, eb⟩ := hT.at (show tk.2.1 < n by omega)
    have hs : sgn tp tk = tp tk.2.1 := by unfold sgn; rw [if_pos h3]
    rw [h3] at k1
    rw [hs]
    have q := s8_le (tp tk.2.1) hb
    by_cases hq : tp tk.2.1 = 0 ∨ 128 ≤ tp tk.2.1
    · rw [lvS_no hq]
      simp (disch := omega) only [e16_0, e16_1, e16_4, e16_5, e16_8, e16_9, e16_12, e16_13, e16_16, e16_17, e16_20, e16_21, e16_24, e16_25, e16_28, e16_29, e16_32, e16_33, e16_34, e16_37, e16_40, e16_41, e16_44, e16_45, ↓reduceIte, inb_n, ix_n, if_true, ne_eq, Nat.reduceEqDiff, not_false_eq_true, clK_s, tl_s, tl_n, clr_i, clr_n, clr_a, nI_add, gR_0, gR_2, gR_3, k1, k2, not_true_eq_false, b_35, eb, q.mpr hq, rz_0]
    · have hq' : ¬ nI (tp tk.2.1) ≤ nI 0 := by
        rw [← s8_n _ (show tp tk.2.1 < 128 by omega)]
        exact fun z => hq (q.mp z)
      have hj := j_index (E := E) (d := d) (σ := σ) (h := 1013 + lv) (cz := tp tk.2.1) ⟨by omega, by omega⟩ (by omega)
      have hv := vSt (σ := σ) (h := 1013 + lv) (xx := some (some (.int (ixN (sX (1013 + lv)) (nI (tp tk.2.1)) 0)), (shp, σ))) (K := fun vv St => Rn E (d + 3 + 1) 16 37 [some (.ref 34), some (.int (nI lv))] (vv.toList ++ []) St) ⟨by omega, by omega⟩
      have eb' : σ 35 tk.2.1 = nI (tp tk.2.1) := by rw [eb]; exact s8_n _ (by omega)
      have q2 := ix_lv lv h5 (tp tk.2.1) (by omega)
      cases hl : lvS lv (tp tk.2.1) with
      | false =>
        simp (disch := omega) only [e16_0, e16_1, e16_4, e16_5, e16_8, e16_9, e16_12, e16_13, e16_16, e16_17, e16_20, e16_21, e16_24, e16_25, e16_28, e16_29, e16_32, e16_33, e16_34, e16_37, e16_40, e16_41, e16_44, e16_45, ↓reduceIte, inb_n, ix_n, if_true, ne_eq, Nat.reduceEqDiff, not_false_eq_true, clK_s, tl_s, tl_n, clr_i, clr_n, clr_a, nI_add, gR_0, gR_2, gR_3, k1, k2, not_true_eq_false, b_35, eb', hq', c_signsOf h5, i2c_n, hj, hv, q2.mpr hl, rz_0]
      | true =>
        have q3 : ¬ ixN (sX (1013 + lv)) (nI (tp tk.2.1)) 0 < nI 0 := fun z => by rw [q2.mp z] at hl; cases hl
        simp (disch := omega) only [e16_0, e16_1, e16_4, e16_5, e16_8, e16_9, e16_12, e16_13, e16_16, e16_17, e16_20, e16_21, e16_24, e16_25, e16_28, e16_29, e16_32, e16_33, e16_34, e16_37, e16_40, e16_41, e16_44, e16_45, ↓reduceIte, inb_n, ix_n, if_true, ne_eq, Nat.reduceEqDiff, not_false_eq_true, clK_s, tl_s, tl_n, clr_i, clr_n, clr_a, nI_add, gR_0, gR_2, gR_3, k1, k2, not_true_eq_false, b_35, eb', hq', c_signsOf h5, i2c_n, hj, hv, q3, rz_1]
  · have h3' : ¬ nI tk.1 = nI 3 := fun z => h3 ((nI_eq (by omega) (by omega)).mp z)
    have hs : sgn tp tk = 0 := by unfold sgn; rw [if_neg h3]
    rw [hs, lvS_no (Or.inl rfl)]
    simp (disch := omega) only [e16_0, e16_1, e16_4, e16_5, e16_8, e16_9, e16_12, e16_13, e16_16, e16_17, e16_20, e16_21, e16_24, e16_25, e16_28, e16_29, e16_32, e16_33, e16_34, e16_37, e16_40, e16_41, e16_44, e16_45, ↓reduceIte, inb_n, ix_n, if_true, ne_eq, Nat.reduceEqDiff, not_false_eq_true, clK_s, tl_s, tl_n, clr_i, clr_n, clr_a, nI_add, gR_2, k1, h3', rz_0]
theorem c_fails1 {fv : Int32} (h5 : σ 34 5 = (-1)) (h3 : σ 34 3 = fv) : Rn E D 14 0 [some (.ref 34)] [] (shp, σ) = some (none, (shp, su (su σ 34 5 fv) 34 2 (nI 4))) := by
  have hm : ¬ nI 0 ≤ (-1 : Int32) := by decide +kernel
  simp (disch := omega) only [e14_0, e14_1, e14_4, e14_7, e14_8, e14_9, e14_12, e14_15, e14_16, e14_17, e14_20, ↓reduceIte, inb_n, ix_n, if_true, ne_eq, Nat.reduceEqDiff, not_false_eq_true, clK_s, tl_s, tl_n, clr_i, clr_n, clr_a, nI_add, gR_3, gR_5, pR_2, pR_5, h5, h3, hm]
theorem c_fails2 {pz : Nat} (h5 : σ 34 5 = nI pz) (hp : pz ≤ 96) : Rn E D 14 0 [some (.ref 34)] [] (shp, σ) = some (none, (shp, su σ 34 2 (nI 4))) := by
  have hm : nI 0 ≤ nI pz := by rw [nI_leI (by omega) (by omega)]; omega
  simp (disch := omega) only [e14_0, e14_1, e14_4, e14_7, e14_8, e14_9, e14_12, e14_15, e14_16, e14_17, e14_20, ↓reduceIte, inb_n, ix_n, if_true, ne_eq, Nat.reduceEqDiff, not_false_eq_true, clK_s, tl_s, tl_n, clr_i, clr_n, clr_a, nI_add, gR_5, pR_2, h5, hm]
theorem c_number_1 (hT : TP σ n tp) (hC : CT σ tk) (hw : tkW tp n tk) (h2 : tk.1 = 2) : ∀ r i a, i + r = tk.2.2 → tk.2.1 ≤ i → Rn E D 20 7 [some (.ref 34), some (.int (nI a)), some (.int (nI i))] [] (shp, σ) = some (some (.int (nI (nuF tp r i a))), (shp, σ)) := by
  obtain ⟨k1, k2, k3⟩ := hC
  obtain ⟨w1, w2, w3, w4, w5, w6⟩ := hw
  have h96 := hT.1
  intro r
  induction r with
  | zero =>
    intro i a hi h1
    have hle : tk.2.2 ≤ i := by omega
    rw [e20_7]
    simp (disch := omega) only [e20_8, e20_9, e20_12, e20_15, e20_16, e20_18, e20_19, e20_20, e20_23, e20_24, e20_25, e20_26, e20_28, e20_29, e20_30, e20_33, e20_36, e20_37, ↓reduceIte, inb_n, ix_n, if_true, ne_eq, Nat.reduceEqDiff, not_false_eq_true, clK_s, tl_s, tl_n, clr_i, clr_n, clr_a, nI_add, gR_4, k3, nI_leI, hle, nuF]
  | succ r ih =>
    intro i a hi h1
    have hle : ¬ tk.2.2 ≤ i := by omega
    obtain ⟨d1, d2⟩ := w5 h2 i h1 (by omega)
    obtain ⟨hb, eb⟩ := hT.at (show i < n by omega)
    have eb' : σ 35 i = nI (tp i) := by rw [eb]; exact s8_n _ (by omega)
    have hnum : nI a * nI 10 + nI (tp i) - nI 48 = nI (10 * a + (tp i - 48)) := by
      rw [pk_mul, nI_add, pk_sub (by omega)]
      congr 1
      omega
    rw [e20_7]
    rw [show nuF tp (r + 1) i a = nuF tp r (i + 1) (10 * a + (tp i - 48)) from rfl, ← ih (i + 1) (10 * a + (tp i - 48)) (by omega) (by omega), ← hnum]
    simp (disch := omega) only [e20_8, e20_9, e20_12, e20_15, e20_16, e20_18, e20_19, e20_20, e20_23, e20_24, e20_25, e20_26, e20_28, e20_29, e20_30, e20_33, ↓reduceIte, inb_n, ix_n, if_true, clr_i, clr_a, gR_0, gR_4, k3, nI_leI, hle, b_35, eb', nI_add (a := i)]
theorem c_number (hT : TP σ n tp) (hC : CT σ tk) (hw : tkW tp n tk) (h2 : tk.1 = 2) : Rn E D 20 0 [some (.ref 34), none, none] [] (shp, σ) = some (some (.int (nI (nuF tp (tk.2.2 - tk.2.1) tk.2.1 0))), (shp, σ)) := by
  have hlt : tk.2.1 < tk.2.2 := by have := hw.2.2.2.1; omega
  rw [← c_number_1 (E := E) (D := D) hT hC hw h2 (tk.2.2 - tk.2.1) tk.2.1 0 (by omega) (by omega)]
  simp (disch := omega) only [e20_0, e20_1, e20_2, e20_3, e20_6, ↓reduceIte, inb_n, ix_n, if_true, ne_eq, Nat.reduceEqDiff, not_false_eq_true, clK_s, tl_s, tl_n, clr_i, clr_n, clr_a, nI_add, gR_3, hC.2.1]
theorem c_nameOf (hD : 4 ≤ D) (hT : TP σ n tp) (hC : CT σ tk) (hw : tkW tp n tk) (h1 : tk.1 = 1) (hk : key < 3) : Rn E D 21 0 [some (.ref 34), some (.int (nI key)), none] [] (shp, σ) = some (some (.int (if tk.2.2 = tk.2.1 + 1 then ixN (sX (1018 + key)) (nI (tp tk.2.1)) 0 else (-1))), (shp, σ)) := by
  obtain ⟨d, rfl⟩ : ∃ d, D = d + 3 + 1 := ⟨D - 4, by omega⟩
  obtain ⟨k1, k2, k3⟩ := hC
  obtain ⟨w1, w2, w3, w4, w5, w6⟩ := hw
  obtain ⟨v1, v2⟩ := w6 h1
  have h96 := hT.1
  by_cases he : tk.2.2 = tk.2.1 + 1
  · have he' : nI (tk.2.2 - tk.2.1) = nI 1 := by rw [show tk.2.2 - tk.2.1 = 1 by omega]
    obtain ⟨hb, eb⟩ := hT.at (show tk.2.1 < n by omega)
    have eb' : σ 35 tk.2.1 = nI (tp tk.2.1) := by rw [eb]; exact s8_n _ (by omega)
    have hj : ∀ h, isStr h → Rn E (d + 3) 213 0 [some (.ref h), some (.int (nI (tp tk.2.1)))] [] (shp, σ) = some (some (.int (ixN (sX h) (nI (tp tk.2.1)) 0)), (shp, σ)) := fun h hh => j_index hh (by omega)
    have hrest : ∀ h, isStr h → Rn E (d + 3 + 1) 21 36 [some (.ref 34), some (.int (nI key)), none] [.ref h] (shp, σ) = some (some (.int (ixN (sX h) (nI (tp tk.2.1)) 0)), (shp, σ)) := by
      intro h hh
      simp (disch := first | exact hh | omega) only [e21_36, e21_37, e21_38, e21_39, e21_42, e21_43, e21_46, e21_47, e21_48, e21_51, ↓reduceIte, inb_n, ix_n, if_true, ne_eq, Nat.reduceEqDiff, not_false_eq_true, clK_s, tl_s, tl_n, clr_i, clr_n, clr_a, nI_add, gR_0, gR_3, k2, b_35, eb', i2c_n, vSt, hj h hh]
    rw [if_pos he]
    have hgo : Rn E (d + 3 + 1) 21 0 [some (.ref 34), some (.int (nI key)), none] [] (shp, σ) = Rn E (d + 3 + 1) 21 36 [some (.ref 34), some (.int (nI key)), none] [.ref (1018 + key)] (shp, σ) := by
      have hka : key = 0 ∨ key = 1 ∨ key = 2 := by omega
      have hx : Rn E (d + 3 + 1) 21 0 [some (.ref 34), some (.int (nI key)), none] [] (shp, σ) = Rn E (d + 3 + 1) 21 15 [some (.ref 34), some (.int (nI key)), none] [] (shp, σ) := by
        simp (disch := omega) only [e21_0, e21_1, e21_4, e21_5, e21_8, e21_9, ↓reduceIte, inb_n, ix_n, if_true, ne_eq, Nat.reduceEqDiff, not_false_eq_true, clK_s, tl_s, tl_n, clr_i, clr_n, clr_a, nI_add, gR_3, gR_4, k2, k3, pk_sub]
        rw [e21_10, if_pos he']
      rw [hx]
      have z1 : ¬ nI 1 = nI 0 := by decide +kernel
      have z2 : ¬ nI 2 = nI 0 := by decide +kernel
      have z3 : ¬ nI 2 = nI 1 := by decide +kernel
      rcases hka with rfl | rfl | rfl
      · simp (disch := omega) only [e21_15, e21_16, e21_19, e21_21, e21_24, e21_25, e21_26, e21_29, e21_31, e21_34, ↓reduceIte, inb_n, ix_n, if_true, ne_eq, Nat.reduceEqDiff, not_false_eq_true, clK_s, tl_s, tl_n, clr_i, clr_n, clr_a, nI_add, not_true_eq_false]
      · simp (disch := omega) only [e21_15, e21_16, e21_19, e21_21, e21_24, e21_25, e21_26, e21_29, e21_31, e21_34, ↓reduceIte, inb_n, ix_n, if_true, ne_eq, Nat.reduceEqDiff, not_false_eq_true, clK_s, tl_s, tl_n, clr_i, clr_n, clr_a, nI_add, z1, not_true_eq_false]
      · simp (disch := omega) only [e21_15, e21_16, e21_19, e21_21, e21_24, e21_25, e21_26, e21_29, e21_31, e21_34, ↓reduceIte, inb_n, ix_n, if_true, ne_eq, Nat.reduceEqDiff, not_false_eq_true, clK_s, tl_s, tl_n, clr_i, clr_n, clr_a, nI_add, z2, z3, not_true_eq_false]
    rw [hgo, hrest _ ⟨by omega, by omega⟩]
  · have he' : ¬ nI (tk.2.2 - tk.2.1) = nI 1 := fun z => he (by have := (nI_eq (a := tk.2.2 - tk.2.1) (b := 1) (by omega) (by omega)).mp z; omega)
    rw [if_neg he]
    simp (disch := omega) only [e21_0, e21_1, e21_4, e21_5, e21_8, e21_9, e21_10, e21_13, e21_14, ↓reduceIte, inb_n, ix_n, if_true, ne_eq, Nat.reduceEqDiff, not_false_eq_true, clK_s, tl_s, tl_n, clr_i, clr_n, clr_a, nI_add, gR_3, gR_4, k2, k3, pk_sub, he']
theorem c_adds {lz : Nat} {cv : Int32} (hh : isW h) (h1 : σ h 1 = nI lz) (hl : lz < 96) : Rn E D 28 0 [some (.ref h), some (.int cv)] [] (shp, σ) = some (none, (shp, su (su σ (h + 1) lz cv) h 1 (nI (lz + 1)))) := by
  have hn : ¬ 96 ≤ lz := by omega
  have e1 : su σ (h + 1) lz cv h 1 = nI lz := by rw [su_p (Or.inl (by omega))]; exact h1
  simp (disch := omega) only [e28_0, e28_1, e28_4, e28_6, e28_9, e28_10, e28_13, e28_14, e28_17, e28_18, e28_19, e28_20, e28_21, e28_24, e28_25, e28_26, e28_29, ↓reduceIte, inb_n, ix_n, if_true, ne_eq, Nat.reduceEqDiff, not_false_eq_true, clK_s, tl_s, tl_n, clr_i, clr_n, clr_a, nI_add, gW_0 hh, gW_1 hh, pW_1 hh, sW_1 hh, h1, nI_leI, hn, e1]
theorem c_adds2 {lz : Nat} {cv : Int32} (hh : isW h) (h1 : σ h 1 = nI lz) (hl : lz ≤ 96) : ∃ σ2, Rn E D 28 0 [some (.ref h), some (.int cv)] [] (shp, σ) = some (none, (shp, σ2)) ∧ Fr [h, h + 1] σ σ2 ∧ σ2 h 2 = σ h 2 ∧ ∃ l2, l2 ≤ 96 ∧ σ2 h 1 = nI l2 := by
  by_cases hq : lz < 96
  · refine ⟨_, c_adds hh h1 hq, (Fr.rf.su (by simp)).su (by simp), ?_, lz + 1, by omega, by rw [su_rf, pk_us]⟩
    rw [su_p (Or.inr (by omega)), su_p (Or.inl (by omega))]
  · have hn : 96 ≤ lz := by omega
    refine ⟨σ, ?_, Fr.rf, rfl, lz, hl, h1⟩
    simp (disch := omega) only [e28_0, e28_1, e28_4, e28_6, e28_9, e28_10, e28_13, e28_14, e28_17, e28_18, e28_19, e28_20, e28_21, e28_24, e28_25, e28_26, e28_29, ↓reduceIte, inb_n, ix_n, if_true, ne_eq, Nat.reduceEqDiff, not_false_eq_true, clK_s, tl_s, tl_n, clr_i, clr_n, clr_a, nI_add, gW_1 hh, h1, nI_leI, hn]
end Cleaf
