/-! TELLING, THE TAPE, IMAGES -/
theorem and255_8 (xv : Int32) : (xv &&& nI 255).toInt8 = xv.toInt8 := by
  apply Int8.toBitVec_inj.mp
  have hr : ∀ yv : Int32, yv.toInt8.toBitVec = yv.toBitVec.signExtend 8 := fun _ => rfl
  rw [hr, hr]
  apply BitVec.eq_of_getLsbD_eq
  intro i hi
  have h255 : ∀ j, j < 8 → (nI 255).toBitVec.getLsbD j = true := by decide +kernel
  rw [BitVec.getLsbD_signExtend, BitVec.getLsbD_signExtend, Int32.toBitVec_and]
  rw [if_pos (by omega), if_pos (by omega), BitVec.getLsbD_and, h255 i hi, Bool.and_true]
theorem byte_eq (xv : Int32) : ∃ b, b < 256 ∧ xv &&& nI 255 = nI b ∧ xv.toInt8.toInt32 = (nI b).toInt8.toInt32 := by
  have h := pk_and xv (m := nI 255) 8 (by decide +kernel)
  refine ⟨xv.toBitVec.toNat % 2 ^ 8, Nat.mod_lt _ (by decide), h, ?_⟩
  rw [← h, and255_8]
theorem i8_id (xv : Int32) : xv.toInt8.toInt32.toInt8 = xv.toInt8 := by simp
section Keep
variable {E : aE} {d : Nat} {σ : Nat → Nat → Int32} {A B : Tn} {im : Bool}
theorem op_tell {xv : Int32} (hI : INV σ A B im) : OK2 σ (Rn E (d + 50) 92 0 [some (.ref 0), some (.int xv)] []) (Rn E (d + 50) 204 0 [some (.ref 93), some (.int xv)] []) := by
  obtain ⟨_, _, hL⟩ := id hI
  obtain ⟨l1, l2, l3, n, hn, w1, w2, w3⟩ := hL
  by_cases h6 : n < 60
  · have g1 : nI n < nI 60 := nI_lt h6 (by omega)
    have g2 : ¬ nI n = nI 60 := fun z => by have := (nI_eq (by omega) (by omega)).mp z; omega
    have e0 : su σ 68 n xv 0 9 = nI n := by rw [su_row (by decide)]; exact w1
    have e1 : su (su σ 68 n xv) 0 9 (nI (n + 1)) 0 9 = nI (n + 1) := by rw [su_rf, pk_us]
    have e2 : su (su σ 68 n xv) 0 9 (nI (n + 1)) 93 30 = nI n := by rw [su_row (by decide), su_row (by decide)]; exact w2
    have e3 : su (su (su σ 68 n xv) 0 9 (nI (n + 1))) 111 n xv 93 30 = nI n := by rw [su_row (by decide)]; exact e2
    have e4 : su (su (su (su σ 68 n xv) 0 9 (nI (n + 1))) 111 n xv) 93 30 (nI (n + 1)) 93 30 = nI (n + 1) := by rw [su_rf, pk_us]
    have hrow : ∀ a, a ≠ 0 → a ≠ 68 → a ≠ 93 → a ≠ 111 → su (su (su (su σ 68 n xv) 0 9 (nI (n + 1))) 111 n xv) 93 30 (nI (n + 1)) a = σ a := fun a h1 h2 h3 h4 => by rw [su_row h3, su_row h4, su_row h1, su_row h2]
    have r0 : ∀ i, i ≠ 9 → su (su (su (su σ 68 n xv) 0 9 (nI (n + 1))) 111 n xv) 93 30 (nI (n + 1)) 0 i = σ 0 i := fun i hi => by rw [su_row (by decide), su_row (by decide), su_rf, pk_un hi, su_row (by decide)]
    have r93 : ∀ i, i ≠ 30 → su (su (su (su σ 68 n xv) 0 9 (nI (n + 1))) 111 n xv) 93 30 (nI (n + 1)) 93 i = σ 93 i := fun i hi => by rw [su_rf, pk_un hi, su_row (by decide), su_row (by decide), su_row (by decide)]
    refine ⟨nI (n + 1), su (su σ 68 n xv) 0 9 (nI (n + 1)), su (su (su (su σ 68 n xv) 0 9 (nI (n + 1))) 111 n xv) 93 30 (nI (n + 1)), A, B, im, ?_, ?_, hI.g (fun a ha => hrow a (by omega) (by omega) (by omega) (by omega)) (r0 10 (by omega)) (r93 3 (by omega)) ⟨l1.ext (fun a ha => hrow a (by omega) (by omega) (by omega) (by omega)), l2.ext (fun a ha => hrow a (by omega) (by omega) (by omega) (by omega)), l3.ext (by rw [hrow 34 (by omega) (by omega) (by omega) (by omega)]) (r93 15 (by omega)) (hrow 35 (by omega) (by omega) (by omega) (by omega)) (hrow 107 (by omega) (by omega) (by omega) (by omega)), ⟨n + 1, by omega, ?_, ?_, ?_⟩⟩⟩
    · simp (disch := omega) only [e92_0, e92_1, e92_4, e92_6, e92_9, e92_11, e92_12, e92_13, e92_16, e92_17, e92_20, e92_21, e92_22, e92_23, e92_24, e92_27, e92_28, e92_29, e92_32, e92_33, e92_36, ↓reduceIte, inb_n, ix_n, if_true, ne_eq, Nat.reduceEqDiff, not_false_eq_true, clK_s, tl_s, tl_n, clr_i, clr_n, clr_a, nI_add, gX_9, pX_9, gX_7, s_68, w1, g1, e0, e1]
    · simp (disch := omega) only [e204_0, e204_1, e204_4, e204_6, e204_9, e204_11, e204_12, e204_13, e204_16, e204_17, e204_20, e204_21, e204_22, e204_23, e204_24, e204_27, e204_28, e204_29, e204_32, e204_33, e204_36, ↓reduceIte, gM_0, a_94, inb_n, ix_n, if_true, ne_eq, Nat.reduceEqDiff, not_false_eq_true, vM, clK_s, tl_s, tl_n, clr_i, clr_n, clr_a, nI_add, gM_30, pM_30, gM_29, s_111, e2, g2, e3, e4]
    · rw [su_row (by decide), su_row (by decide), su_rf, pk_us]
    · rw [su_rf, pk_us]
    · intro i hi
      rw [su_row (by decide), su_row (by decide), su_row (by decide), su_rf, su_row (by decide), su_rf, su_row (by decide), su_row (by decide)]
      by_cases hq : i = n
      · rw [hq, pk_us, pk_us]
      · rw [pk_un hq, pk_un hq]; exact w3 i (by omega)
  · have h60 : n = 60 := by omega
    subst h60
    have g1 : ¬ nI 60 < nI 60 := by decide +kernel
    refine ok_read (vv := (-1000000003)) hI ?_ ?_
    · simp (disch := omega) only [e92_0, e92_1, e92_4, e92_6, e92_9, e92_11, e92_12, e92_13, e92_16, e92_17, e92_20, e92_21, e92_22, e92_23, e92_24, e92_27, e92_28, e92_29, e92_32, e92_33, e92_36, ↓reduceIte, inb_n, ix_n, if_true, ne_eq, Nat.reduceEqDiff, not_false_eq_true, clK_s, tl_s, tl_n, clr_i, clr_n, clr_a, nI_add, gX_9, w1, g1]
    · simp (disch := omega) only [e204_0, e204_1, e204_4, e204_6, e204_9, e204_11, e204_12, e204_13, e204_16, e204_17, e204_20, e204_21, e204_22, e204_23, e204_24, e204_27, e204_28, e204_29, e204_32, e204_33, e204_36, ↓reduceIte, gM_0, a_94, inb_n, ix_n, if_true, ne_eq, Nat.reduceEqDiff, not_false_eq_true, vM, clK_s, tl_s, tl_n, clr_i, clr_n, clr_a, nI_add, gM_30, w2, not_true_eq_false]
theorem op_trim {xv : Int32} (hI : INV σ A B im) : OK2 σ (Rn E (d + 50) 79 0 [some (.ref 0), some (.int xv)] []) (Rn E (d + 50) 169 0 [some (.ref 93), some (.int xv)] []) := by
  obtain ⟨_, _, hL⟩ := id hI
  obtain ⟨l1, l2, ⟨n, hn, w1, w2, w3⟩, l4⟩ := hL
  have tn : (nI n).toInt = (n : Int) := nI_toInt (by omega)
  cases hb : rg 0 n xv with
  | false =>
    refine ok_read (vv := (-1000000001)) hI ?_ ?_
    · simp (disch := omega) only [e79_0, e79_1, e79_2, e79_3, e79_6, e79_9, e79_12, e79_15, e79_17, e79_18, e79_19, e79_22, e79_23, e79_26, e79_27, ↓reduceIte, inb_n, ix_n, if_true, ne_eq, Nat.reduceEqDiff, not_false_eq_true, clK_s, tl_s, tl_n, clr_i, clr_n, clr_a, nI_add, gX_1, gR_1, w1, c_isWithin, tI_0, tI_1, tI_2, tI_3, tI_4, tI_5, tI_6, tI_7, tI_8, tI_19, tI_20, tI_23, tI_24, tI_29, tI_30, tI_48, tI_50, tI_57, tI_60, tI_97, tI_100, tI_122, tI_200, tI_99999, tI_m1, tI_m99999, tn, hb, bI_0, Bool.true_eq_false, Bool.false_eq_true, not_true_eq_false, not_false_eq_true, if_false, reduceCtorEq]
    · simp (disch := omega) only [e169_0, e169_1, e169_2, e169_3, e169_4, e169_7, e169_8, e169_11, e169_14, e169_16, e169_17, e169_18, e169_19, e169_22, e169_23, ↓reduceIte, gM_0, a_94, inb_n, ix_n, if_true, ne_eq, Nat.reduceEqDiff, not_false_eq_true, vM, clK_s, tl_s, tl_n, clr_i, clr_n, clr_a, nI_add, gM_15, w2, k_in, rgL_c, tL_0, tL_1, tL_2, tL_3, tL_4, tL_5, tL_6, tL_7, tL_8, tL_19, tL_30, tL_48, tL_50, tL_57, tL_60, tL_97, tL_100, tL_122, tL_200, tL_99999, tL_m1, tL_m99999, Int32.toInt_toInt64, tn, hb, bI_0, Bool.true_eq_false, Bool.false_eq_true, not_true_eq_false, not_false_eq_true, if_false, reduceCtorEq]
  | true =>
    obtain ⟨m, hm, rfl⟩ := rg_ex hb
    have e2 : su σ 34 1 (nI m) 93 15 = nI n := by rw [su_row (by decide)]; exact w2
    have hrow : ∀ a, a ≠ 34 → a ≠ 93 → su (su σ 34 1 (nI m)) 93 15 (nI m) a = σ a := fun a h1 h2 => by rw [su_row h2, su_row h1]
    have r93 : ∀ i, i ≠ 15 → su (su σ 34 1 (nI m)) 93 15 (nI m) 93 i = σ 93 i := fun i hi => by rw [su_rf, pk_un hi, su_row (by decide)]
    refine ⟨nI m, su σ 34 1 (nI m), su (su σ 34 1 (nI m)) 93 15 (nI m), A, B, im, ?_, ?_, hI.g (fun a ha => hrow a (by omega) (by omega)) (by rw [hrow 0 (by omega) (by omega)]) (r93 3 (by omega)) ⟨l1.ext (fun a ha => hrow a (by omega) (by omega)), l2.ext (fun a ha => hrow a (by omega) (by omega)), ⟨m, by omega, ?_, ?_, ?_⟩, l4.ext (by rw [hrow 0 (by omega) (by omega)]) (r93 30 (by omega)) (hrow 68 (by omega) (by omega)) (hrow 111 (by omega) (by omega))⟩⟩
    · simp (disch := omega) only [e79_0, e79_1, e79_2, e79_3, e79_6, e79_9, e79_12, e79_15, e79_17, e79_18, e79_19, e79_22, e79_23, e79_26, e79_27, ↓reduceIte, inb_n, ix_n, if_true, ne_eq, Nat.reduceEqDiff, not_false_eq_true, clK_s, tl_s, tl_n, clr_i, clr_n, clr_a, nI_add, gX_1, gR_1, pR_1, w1, c_isWithin, tI_0, tI_1, tI_2, tI_3, tI_4, tI_5, tI_6, tI_7, tI_8, tI_19, tI_20, tI_23, tI_24, tI_29, tI_30, tI_48, tI_50, tI_57, tI_60, tI_97, tI_100, tI_122, tI_200, tI_99999, tI_m1, tI_m99999, tn, hb, bI_0, Bool.true_eq_false, Bool.false_eq_true, not_true_eq_false, not_false_eq_true, if_false, reduceCtorEq]
    · simp (disch := omega) only [e169_0, e169_1, e169_2, e169_3, e169_4, e169_7, e169_8, e169_11, e169_14, e169_16, e169_17, e169_18, e169_19, e169_22, e169_23, ↓reduceIte, gM_0, a_94, inb_n, ix_n, if_true, ne_eq, Nat.reduceEqDiff, not_false_eq_true, vM, clK_s, tl_s, tl_n, clr_i, clr_n, clr_a, nI_add, gM_15, pM_15, e2, k_in, rgL_c, tL_0, tL_1, tL_2, tL_3, tL_4, tL_5, tL_6, tL_7, tL_8, tL_19, tL_30, tL_48, tL_50, tL_57, tL_60, tL_97, tL_100, tL_122, tL_200, tL_99999, tL_m1, tL_m99999, Int32.toInt_toInt64, tn, hb, bI_0, Bool.true_eq_false, Bool.false_eq_true, not_true_eq_false, not_false_eq_true, if_false, reduceCtorEq]
    · rw [su_row (by decide), su_rf, pk_us]
    · rw [su_rf, pk_us]
    · rw [hrow 107 (by omega) (by omega), hrow 35 (by omega) (by omega)]
      exact fun i hi => w3 i (by omega)
def byS (xv : Int32) (k : Nat) : Int32 := xv >>> (nI (24 - 8 * k) &&& 31)
theorem c_takes1 {xv : Int32} {n k : Nat} (hk : k < 4) (hn : n < 96) (e1 : σ 34 1 = nI n) : ∃ wv, Rn E d 8 3 [some (.ref 34), some (.int xv), some (.int (nI (24 - 8 * k)))] [] (shp, σ) = Rn E d 8 3 [some (.ref 34), some (.int xv), some (.int wv)] [] (shp, su (su σ 35 n (byS xv k).toInt8.toInt32) 34 1 (nI (n + 1))) ∧ wv = nI (24 - 8 * k) + (-8) := by
  have g1 : ¬ nI (24 - 8 * k) < nI 0 := nI_nn (by omega)
  have h1 : ¬ 96 ≤ n := by omega
  have e2 : su σ 35 n (byS xv k).toInt8.toInt32 34 1 = nI n := by rw [su_row (by decide)]; exact e1
  have e3 : xv >>> (nI (24 - 8 * k) &&& 31) = byS xv k := rfl
  refine ⟨_, ?_, rfl⟩
  conv => lhs; rw [e8_3]
  simp (disch := omega) only [e8_4, e8_7, e8_8, e8_11, e8_13, e8_16, e8_17, e8_20, e8_21, e8_24, e8_25, e8_26, e8_27, e8_28, e8_29, e8_30, e8_31, e8_34, e8_35, e8_36, e8_39, e8_42, ↓reduceIte, inb_n, ix_n, if_true, ne_eq, Nat.reduceEqDiff, not_false_eq_true, clK_s, tl_s, tl_n, clr_i, clr_n, clr_a, nI_add, g1, gR_1, gR_0, pR_1, e1, nI_leI, h1, t_35, e3, i8_id, e2]
theorem c_takesV {xv : Int32} {n : Nat} (hn : n + 4 ≤ 96) (e1 : σ 34 1 = nI n) : ∃ σ2, Rn E d 8 0 [some (.ref 34), some (.int xv), none] [] (shp, σ) = some (none, (shp, σ2)) ∧ Fr [34, 35] σ σ2 ∧ σ2 34 1 = nI (n + 4) ∧ (∀ i, i < n → σ2 35 i = σ 35 i) ∧ ∀ k, k < 4 → σ2 35 (n + k) = (byS xv k).toInt8.toInt32 := by
  have q1 : nI (24 - 8 * 0) + (-8) = nI (24 - 8 * 1) := by decide +kernel
  have q2 : nI (24 - 8 * 1) + (-8) = nI (24 - 8 * 2) := by decide +kernel
  have q3 : nI (24 - 8 * 2) + (-8) = nI (24 - 8 * 3) := by decide +kernel
  have q4 : nI (24 - 8 * 3) + (-8) < nI 0 := by decide +kernel
  obtain ⟨v1, a1, b1⟩ := c_takes1 (E := E) (d := d) (xv := xv) (k := 0) (by omega) (show n < 96 by omega) e1
  have e2 : su (su σ 35 n (byS xv 0).toInt8.toInt32) 34 1 (nI (n + 1)) 34 1 = nI (n + 1) := by rw [su_rf, pk_us]
  obtain ⟨v2, a2, b2⟩ := c_takes1 (E := E) (d := d) (xv := xv) (k := 1) (by omega) (show n + 1 < 96 by omega) e2
  have e3 : su (su (su (su σ 35 n (byS xv 0).toInt8.toInt32) 34 1 (nI (n + 1))) 35 (n + 1) (byS xv 1).toInt8.toInt32) 34 1 (nI (n + 1 + 1)) 34 1 = nI (n + 1 + 1) := by rw [su_rf, pk_us]
  obtain ⟨v3, a3, b3⟩ := c_takes1 (E := E) (d := d) (xv := xv) (k := 2) (by omega) (show n + 1 + 1 < 96 by omega) e3
  have e4 : su (su (su (su (su (su σ 35 n (byS xv 0).toInt8.toInt32) 34 1 (nI (n + 1))) 35 (n + 1) (byS xv 1).toInt8.toInt32) 34 1 (nI (n + 1 + 1))) 35 (n + 1 + 1) (byS xv 2).toInt8.toInt32) 34 1 (nI (n + 1 + 1 + 1)) 34 1 = nI (n + 1 + 1 + 1) := by rw [su_rf, pk_us]
  obtain ⟨v4, a4, b4⟩ := c_takes1 (E := E) (d := d) (xv := xv) (k := 3) (by omega) (show n + 1 + 1 + 1 < 96 by omega) e4
  subst b1
  subst b2
  subst b3
  subst b4
  rw [q1] at a1
  rw [q2] at a2
  rw [q3] at a3
  refine ⟨su (su (su (su (su (su (su (su σ 35 n (byS xv 0).toInt8.toInt32) 34 1 (nI (n + 1))) 35 (n + 1) (byS xv 1).toInt8.toInt32) 34 1 (nI (n + 1 + 1))) 35 (n + 1 + 1) (byS xv 2).toInt8.toInt32) 34 1 (nI (n + 1 + 1 + 1))) 35 (n + 1 + 1 + 1) (byS xv 3).toInt8.toInt32) 34 1 (nI (n + 1 + 1 + 1 + 1)), ?_, (((((((Fr.rf.su (by decide)).su (by decide)).su (by decide)).su (by decide)).su (by decide)).su (by decide)).su (by decide)).su (by decide), ?_, ?_, ?_⟩
  rotate_left 1
  · rw [su_rf, pk_us]
  · intro i hi
    simp (disch := omega) only [su_row, su_rf, pk_un]
  · intro k hk
    match k, hk with
    | 0, _ => simp (disch := omega) only [su_row, su_rf, pk_un, pk_us, Nat.add_zero]
    | 1, _ => simp (disch := omega) only [su_row, su_rf, pk_un, pk_us]
    | 2, _ => simp (disch := omega) only [su_row, su_rf, pk_un, pk_us]
    | 3, _ => simp (disch := omega) only [su_row, su_rf, pk_un, pk_us]
  · have h0 : Rn E d 8 0 [some (.ref 34), some (.int xv), none] [] (shp, σ) = Rn E d 8 3 [some (.ref 34), some (.int xv), some (.int (nI (24 - 8 * 0)))] [] (shp, σ) := by
      simp only [e8_0, e8_2, clr_i]
    rw [h0, a1, a2, a3, a4]
    simp only [e8_3, e8_4, e8_45, q4, if_true]
def byR (av bv cv : Int32) (k : Nat) : Int32 := byS (if k < 4 then av else if k < 8 then bv else cv) (k % 4) &&& nI 255
theorem k_feed_l {av bv cv : Int32} {n : Nat} (hn : n + 12 ≤ 96) : ∀ r iz (σ1 : Nat → Nat → Int32) (w5 : Option Value), iz + r = 12 → Fr [93, 107] σ σ1 → σ1 93 15 = nI (n + iz) → (∀ i, i ≠ 15 → σ1 93 i = σ 93 i) → (∀ i, i < n → σ1 107 i = σ 107 i) → (∀ k, k < iz → σ1 107 (n + k) = byR av bv cv k) →
    ∃ σ2, Rn E d 168 18 [some (.ref 93), some (.int av), some (.int bv), some (.int cv), some (.int (nI iz)), w5] [] (shp, σ1) = some (some (.int (nI (n + 12))), (shp, σ2)) ∧ Fr [93, 107] σ σ2 ∧ σ2 93 15 = nI (n + 12) ∧ (∀ i, i ≠ 15 → σ2 93 i = σ 93 i) ∧ (∀ i, i < n → σ2 107 i = σ 107 i) ∧ ∀ k, k < 12 → σ2 107 (n + k) = byR av bv cv k := by
  intro r
  induction r with
  | zero =>
    intro iz σ1 w5 hi hf e1 h93 ho hc
    have h1 : 12 ≤ iz := by omega
    have h2 : iz = 12 := by omega
    rw [h2] at e1
    refine ⟨σ1, ?_, hf, e1, h93, ho, fun k hk => hc k (by omega)⟩
    rw [e168_18]
    simp (disch := omega) only [e168_20, e168_22, e168_25, e168_27, e168_28, e168_31, e168_32, e168_35, e168_37, e168_39, e168_42, e168_43, e168_46, e168_47, e168_49, e168_50, e168_53, e168_54, e168_57, e168_59, e168_61, e168_63, e168_65, e168_66, e168_67, e168_68, e168_69, e168_70, e168_73, e168_74, e168_75, e168_76, e168_77, e168_80, e168_81, e168_82, e168_85, e168_88, e168_91, e168_92, e168_95, ↓reduceIte, gM_0, a_94, inb_n, ix_n, if_true, ne_eq, Nat.reduceEqDiff, not_false_eq_true, vM, clK_s, tl_s, tl_n, clr_i, clr_n, clr_a, nI_add, nI_leI, h1, gM_15, e1]
  | succ r ih =>
    intro iz σ1 w5 hi hf e1 h93 ho hc
    have h1 : ¬ 12 ≤ iz := by omega
    have e2 : su σ1 107 (n + iz) (byR av bv cv iz) 93 15 = nI (n + iz) := by rw [su_row (by decide)]; exact e1
    have hgo : ∀ xv : Int32, xv = (if iz < 4 then av else if iz < 8 then bv else cv) → Rn E d 168 47 [some (.ref 93), some (.int av), some (.int bv), some (.int cv), some (.int (nI iz)), w5] [.int xv] (shp, σ1) = Rn E d 168 18 [some (.ref 93), some (.int av), some (.int bv), some (.int cv), some (.int (nI (iz + 1))), some (.int xv)] [] (shp, su (su σ1 107 (n + iz) (byR av bv cv iz)) 93 15 (nI (n + iz + 1))) := by
      intro xv hx
      have e3 : (xv >>> (nI (24 - 8 * (iz % 4)) &&& 31)) &&& nI 255 = byR av bv cv iz := by unfold byR byS; rw [← hx]
      simp (disch := omega) only [e168_47, e168_49, e168_50, e168_53, e168_54, e168_57, e168_59, e168_61, e168_63, e168_65, e168_66, e168_67, e168_68, e168_69, e168_70, e168_73, e168_74, e168_75, e168_76, e168_77, e168_80, e168_81, e168_82, e168_85, e168_88, ↓reduceIte, gM_0, a_94, inb_n, ix_n, if_true, ne_eq, Nat.reduceEqDiff, not_false_eq_true, vM, clK_s, tl_s, tl_n, clr_i, clr_n, clr_a, nI_add, gM_14, gM_15, pM_15, e1, rm_n, rem_n, pk_mul, pk_sub, s_107, e3, e2]
    obtain ⟨σ2, g1, g2⟩ := ih (iz + 1) (su (su σ1 107 (n + iz) (byR av bv cv iz)) 93 15 (nI (n + iz + 1))) (some (.int (if iz < 4 then av else if iz < 8 then bv else cv))) (by omega) ((hf.su (by decide)).su (by decide)) (by rw [su_rf, pk_us]; rfl) (by
      intro i hi
      rw [su_rf, pk_un hi, su_row (by decide)]; exact h93 i hi) (by
      intro i hi
      rw [su_row (by decide), su_rf, pk_un (by omega)]; exact ho i hi) (by
      intro k hk
      rw [su_row (by decide), su_rf]
      by_cases hq : k = iz
      · rw [hq, pk_us]
      · rw [pk_un (by omega)]; exact hc k (by omega))
    refine ⟨σ2, ?_, g2⟩
    rw [← g1]
    rw [← hgo _ rfl]
    rw [e168_18]
    by_cases h4 : iz < 4
    · have h4' : ¬ 4 ≤ iz := by omega
      simp (disch := omega) only [e168_20, e168_22, e168_25, e168_27, e168_28, e168_31, e168_32, e168_35, e168_37, e168_39, e168_42, e168_43, e168_46, ↓reduceIte, gM_0, a_94, inb_n, ix_n, if_true, ne_eq, Nat.reduceEqDiff, not_false_eq_true, vM, clK_s, tl_s, tl_n, clr_i, clr_n, clr_a, nI_add, nI_leI, h1, h4', h4]
    · have h4' : 4 ≤ iz := by omega
      by_cases h8 : iz < 8
      · have h8' : ¬ 8 ≤ iz := by omega
        simp (disch := omega) only [e168_20, e168_22, e168_25, e168_27, e168_28, e168_31, e168_32, e168_35, e168_37, e168_39, e168_42, e168_43, e168_46, ↓reduceIte, gM_0, a_94, inb_n, ix_n, if_true, ne_eq, Nat.reduceEqDiff, not_false_eq_true, vM, clK_s, tl_s, tl_n, clr_i, clr_n, clr_a, nI_add, nI_leI, h1, h4', h8', h4, h8]
      · have h8' : 8 ≤ iz := by omega
        simp (disch := omega) only [e168_20, e168_22, e168_25, e168_27, e168_28, e168_31, e168_32, e168_35, e168_37, e168_39, e168_42, e168_43, e168_46, ↓reduceIte, gM_0, a_94, inb_n, ix_n, if_true, ne_eq, Nat.reduceEqDiff, not_false_eq_true, vM, clK_s, tl_s, tl_n, clr_i, clr_n, clr_a, nI_add, nI_leI, h1, h4', h8', h4, h8]
theorem op_feed {av bv cv : Int32} (hI : INV σ A B im) : OK2 σ (Rn E (d + 50) 78 0 [some (.ref 0), some (.int av), some (.int bv), some (.int cv)] []) (Rn E (d + 50) 168 0 [some (.ref 93), some (.int av), some (.int bv), some (.int cv), none, none] []) := by
  obtain ⟨_, _, hL⟩ := id hI
  obtain ⟨l1, l2, ⟨n, hn, w1, w2, w3⟩, l4⟩ := hL
  by_cases hq : n + 12 ≤ 96
  · obtain ⟨σ1, a1, a2, a3, a4, a5⟩ := c_takesV (E := E) (d := d + 49) (xv := av) (show n + 4 ≤ 96 by omega) w1
    obtain ⟨σ2, b1, b2, b3, b4, b5⟩ := c_takesV (E := E) (d := d + 49) (xv := bv) (show n + 4 + 4 ≤ 96 by omega) a3
    obtain ⟨σ3, c1, c2, c3, c4, c5⟩ := c_takesV (E := E) (d := d + 49) (xv := cv) (show n + 4 + 4 + 4 ≤ 96 by omega) b3
    have fr3 : Fr [34, 35] σ σ3 := (a2.tr b2).tr c2
    have e93 : σ3 93 15 = nI (n + 0) := by rw [fr3 93 (by decide)]; exact w2
    obtain ⟨σ4, g1, g2, g3, g4, g5, g6⟩ := k_feed_l (E := E) (d := d + 50) (σ := σ3) (av := av) (bv := bv) (cv := cv) (n := n) hq 12 0 σ3 none (by omega) Fr.rf e93 (fun i _ => rfl) (fun i _ => rfl) (fun k hk => by omega)
    have hrow : ∀ a, a ≠ 34 → a ≠ 35 → a ≠ 93 → a ≠ 107 → σ4 a = σ a := fun a h1 h2 h3 h4 => by rw [g2 a (by simp; exact ⟨h3, h4⟩), fr3 a (by simp; exact ⟨h1, h2⟩)]
    have r93 : ∀ i, i ≠ 15 → σ4 93 i = σ 93 i := fun i hi => by rw [g4 i hi, fr3 93 (by decide)]
    have r34 : σ4 34 = σ3 34 := g2 34 (by decide)
    have r35 : σ4 35 = σ3 35 := g2 35 (by decide)
    refine ⟨nI (n + 12), σ3, σ4, A, B, im, ?_, ?_, hI.g (fun a ha => hrow a (by omega) (by omega) (by omega) (by omega)) (by rw [hrow 0 (by omega) (by omega) (by omega) (by omega)]) (r93 3 (by omega)) ⟨l1.ext (fun a ha => hrow a (by omega) (by omega) (by omega) (by omega)), l2.ext (fun a ha => hrow a (by omega) (by omega) (by omega) (by omega)), ⟨n + 12, by omega, by rw [r34]; exact c3, g3, ?_⟩, l4.ext (by rw [hrow 0 (by omega) (by omega) (by omega) (by omega)]) (r93 30 (by omega)) (hrow 68 (by omega) (by omega) (by omega) (by omega)) (hrow 111 (by omega) (by omega) (by omega) (by omega))⟩⟩
    · simp (disch := omega) only [e78_0, e78_1, e78_4, e78_7, e78_9, e78_10, e78_12, e78_15, e78_17, e78_18, e78_19, e78_22, e78_23, e78_26, e78_27, e78_30, e78_31, e78_34, e78_35, e78_38, e78_39, e78_42, e78_43, e78_46, e78_49, ↓reduceIte, inb_n, ix_n, if_true, ne_eq, Nat.reduceEqDiff, not_false_eq_true, clK_s, tl_s, tl_n, clr_i, clr_n, clr_a, nI_add, gX_1, gR_1, w1, nI_leI, hq, vR, a1, b1, c1, c3]
    · have w2' : σ3 93 15 = nI n := e93
      simp (disch := omega) only [e168_0, e168_1, e168_4, e168_6, e168_7, e168_9, e168_12, e168_14, e168_15, e168_16, ↓reduceIte, gM_0, a_94, inb_n, ix_n, if_true, ne_eq, Nat.reduceEqDiff, not_false_eq_true, vM, clK_s, tl_s, tl_n, clr_i, clr_n, clr_a, nI_add, gM_15, w2', nI_leI, hq]
      exact g1
    · intro i hi
      rw [r35]
      by_cases hlt : i < n
      · rw [g5 i hlt, c4 i (by omega), b4 i (by omega), a4 i hlt, fr3 107 (by decide)]
        exact w3 i hlt
      · obtain ⟨k, rfl⟩ : ∃ k, i = n + k := ⟨i - n, by omega⟩
        have hk : k < 12 := by omega
        rw [g6 k hk]
        have hcls : σ3 35 (n + k) = (byS (if k < 4 then av else if k < 8 then bv else cv) (k % 4)).toInt8.toInt32 := by
          by_cases h4 : k < 4
          · rw [if_pos h4, c4 _ (by omega), b4 _ (by omega), a5 k h4, Nat.mod_eq_of_lt h4]
          · rw [if_neg h4]
            by_cases h8 : k < 8
            · rw [if_pos h8, c4 _ (by omega), show n + k = n + 4 + (k - 4) by omega, b5 _ (by omega), show k % 4 = k - 4 by omega]
            · rw [if_neg h8, show n + k = n + 4 + 4 + (k - 8) by omega, c5 _ (by omega), show k % 4 = k - 8 by omega]
        rw [hcls]
        exact byte_eq _
  · refine ok_read (vv := (-1000000003)) hI ?_ ?_
    · simp (disch := omega) only [e78_0, e78_1, e78_4, e78_7, e78_9, e78_10, e78_12, e78_15, e78_17, e78_18, e78_19, e78_22, e78_23, e78_26, e78_27, e78_30, e78_31, e78_34, e78_35, e78_38, e78_39, e78_42, e78_43, e78_46, e78_49, ↓reduceIte, inb_n, ix_n, if_true, ne_eq, Nat.reduceEqDiff, not_false_eq_true, clK_s, tl_s, tl_n, clr_i, clr_n, clr_a, nI_add, gX_1, gR_1, w1, nI_leI, hq]
    · simp (disch := omega) only [e168_0, e168_1, e168_4, e168_6, e168_7, e168_9, e168_12, e168_14, ↓reduceIte, gM_0, a_94, inb_n, ix_n, if_true, ne_eq, Nat.reduceEqDiff, not_false_eq_true, vM, clK_s, tl_s, tl_n, clr_i, clr_n, clr_a, nI_add, gM_15, w2, nI_leI, hq]
def isS (a : Nat) : Prop := a = 94 ∨ a = 95 ∨ a = 96
theorem shS {a : Nat} (h : isS a) : shp[a]? = some (0, 3051, []) := by
  rcases h with rfl | rfl | rfl <;> rfl
theorem k_aside_l {a b : Nat} (ha : isS a) (hb : isS b) (hab : a ≠ b) : ∀ r iz (σ1 : Nat → Nat → Int32), iz + r = 2851 → Fr [b] σ σ1 → (∀ i, i < iz → σ1 b i = σ a i) →
    ∃ σ2, Rn E d 205 2 [some (.ref 93), some (.ref a), some (.ref b), some (.int (nI iz))] [] (shp, σ1) = some (none, (shp, σ2)) ∧ Fr [b] σ σ2 ∧ ∀ i, i < 2851 → σ2 b i = σ a i := by
  have ha2 : a = 94 ∨ a = 95 ∨ a = 96 := ha
  have hb2 : b = 94 ∨ b = 95 ∨ b = 96 := hb
  intro r
  induction r with
  | zero =>
    intro iz σ1 hi hf hc
    have h1 : 2851 ≤ iz := by omega
    exact ⟨σ1, by simp (disch := omega) only [e205_0, e205_1, e205_2, e205_3, e205_6, e205_9, e205_10, e205_11, e205_12, e205_13, e205_14, e205_15, e205_18, e205_21, nI_leI, h1, if_true], hf, fun i hj => hc i (by omega)⟩
  | succ r ih =>
    intro iz σ1 hi hf hc
    have h1 : ¬ 2851 ≤ iz := by omega
    have ea : σ1 a = σ a := hf a (by simpa using hab)
    obtain ⟨σ2, g1, g2⟩ := ih (iz + 1) (su σ1 b iz (σ a iz)) (by omega) (hf.su (by simp)) (by
      intro i hj
      rw [su_rf]
      by_cases hq : i = iz
      · rw [hq, pk_us]
      · rw [pk_un hq]; exact hc i (by omega))
    refine ⟨σ2, ?_, g2⟩
    rw [← g1]
    conv => lhs; rw [e205_2]
    simp (disch := omega) only [e205_0, e205_1, e205_3, e205_6, e205_9, e205_10, e205_11, e205_12, e205_13, e205_14, e205_15, e205_18, e205_21, ↓reduceIte, inb_n, ix_n, if_true, ne_eq, Nat.reduceEqDiff, not_false_eq_true, clK_s, tl_s, tl_n, clr_i, clr_n, clr_a, nI_add, nI_leI, h1, aldI (shS ha), astI (shS hb), ea]
theorem k_aside {a b : Nat} (ha : isS a) (hb : isS b) (hab : a ≠ b) : ∃ σ2, Rn E d 205 0 [some (.ref 93), some (.ref a), some (.ref b), none] [] (shp, σ) = some (none, (shp, σ2)) ∧ Fr [b] σ σ2 ∧ ∀ i, i < 2851 → σ2 b i = σ a i := by
  simp only [e205_0, e205_1, clr_a]
  exact k_aside_l ha hb hab 2851 0 σ (by omega) Fr.rf (fun i hi => by omega)
theorem MR_cp {s t : Nat → Int32} (hM : MR s A) (h8 : tN A ≤ 8) (hX : WFx A) (hc : ∀ i, i < 2851 → t i = s i) : MR t A := by
  have h14 := hX.1
  obtain ⟨a1, a2, a3, a4, a5, a6⟩ := hM
  refine ⟨by rw [hc 0 (by omega)]; exact a1, fun kz hk j hj => by rw [hc _ (by omega)]; exact a2 kz hk j hj, fun i hi hj => by rw [hc _ (by omega)]; exact a3 i hi hj, by rw [hc 50 (by omega)]; exact a4, by rw [hc 1 (by omega)]; exact a5, fun t1 tx ht => ?_⟩
  obtain ⟨b1, b2, b3, b4⟩ := a6 t1 tx ht
  have hlt : t1 < (tX A).length := by
    rcases Nat.lt_or_ge t1 (tX A).length with hq | hq
    · exact hq
    · rw [List.getElem?_eq_none hq] at ht; cases ht
  have hok := hX.2 tx (List.mem_of_getElem? ht)
  refine ⟨by rw [hc _ (by omega)]; exact b1, by rw [hc _ (by omega)]; exact b2, by rw [hc _ (by omega)]; exact b3, fun i w xv hg => ?_⟩
  have hli : i < tx.2.2.length := by
    rcases Nat.lt_or_ge i tx.2.2.length with hq | hq
    · exact hq
    · rw [List.getElem?_eq_none hq] at hg; cases hg
  have := hok.2.1
  rw [hc _ (by omega), hc _ (by omega)]
  exact b4 i w xv hg
theorem op_keep (hI : INV σ A B im) : OK2 σ (Rn E (d + 50) 94 0 [some (.ref 0)] []) (Rn E (d + 50) 207 0 [some (.ref 93)] []) := by
  obtain ⟨⟨hC, hM, hW, hX, hc, hR⟩, _, hL⟩ := id hI
  have h8 := hW.1
  obtain ⟨σ1, a1, a2, a3⟩ := c_takes (E := E) (d := d + 48) t46 t36 (by decide) hC h8
  have v1 : nI 1 = 0 ∨ nI 1 = 1 := Or.inr (by decide +kernel)
  have p10 : su σ1 0 10 (nI 1) 46 10 = nI (tN A) := by rw [su_row (by decide)]; exact a3.1
  obtain ⟨σ2, b1, b2, b3⟩ := k_aside (E := E) (d := d + 49) (σ := su (su σ1 0 10 (nI 1)) 93 3 (nI 1)) (a := 94) (b := 95) (Or.inl rfl) (Or.inr (Or.inl rfl)) (by decide)
  have e94 : su (su σ1 0 10 (nI 1)) 93 3 (nI 1) 94 = σ 94 := by rw [su_row (by decide), su_row (by decide), a2 94 (by omega) (by omega)]
  have r94 : σ2 94 = σ 94 := by rw [b2 94 (by decide), e94]
  have hrow : ∀ a, a ≠ 0 → a ≠ 3 → (a < 46 ∨ 56 ≤ a) → a ≠ 93 → a ≠ 95 → σ2 a = σ a := fun a h1 h2 h3 h4 h5 => by rw [b2 a (by simpa using h5), su_row h4, su_row h1, a2 a h2 (by omega)]
  have r0 : ∀ i, i ≠ 10 → σ2 0 i = σ 0 i := fun i hi => by rw [b2 0 (by decide), su_row (by decide), su_rf, pk_un hi, a2 0 (by omega) (by omega)]
  have r93 : ∀ i, i ≠ 3 → σ2 93 i = σ 93 i := fun i hi => by rw [b2 93 (by decide), su_rf, pk_un hi, su_row (by decide), a2 93 (by omega) (by omega)]
  have e0 : σ2 94 0 = nI (tN A) := by rw [r94]; exact hM.1
  obtain ⟨l1, l2, l3, l4⟩ := hL
  refine ⟨nI (tN A), su σ1 0 10 (nI 1), σ2, A, A, true, ?_, ?_, ⟨hC.ext (fun a h1 h2 _ => hrow a (by omega) (by omega) (by omega) (by omega) (by omega)), by rw [r94]; exact hM, hW, hX, hc, hR.ext hX.1 (fun a h1 h2 => hrow a (by omega) (by omega) (by omega) (by omega) (by omega))⟩, ⟨?_, ?_, fun _ => ⟨?_, ?_, hW, hc, List.prefix_refl _⟩⟩, ⟨l1.ext (fun a ha => hrow a (by omega) (by omega) (by omega) (by omega) (by omega)), l2.ext (fun a ha => hrow a (by omega) (by omega) (by omega) (by omega) (by omega)), l3.ext (by rw [hrow 34 (by omega) (by omega) (by omega) (by omega) (by omega)]) (r93 15 (by omega)) (hrow 35 (by omega) (by omega) (by omega) (by omega) (by omega)) (hrow 107 (by omega) (by omega) (by omega) (by omega) (by omega)), l4.ext (r0 9 (by omega)) (r93 30 (by omega)) (hrow 68 (by omega) (by omega) (by omega) (by omega) (by omega)) (hrow 111 (by omega) (by omega) (by omega) (by omega) (by omega))⟩⟩
  · simp (disch := omega) only [e94_0, e94_1, e94_4, e94_5, e94_8, e94_11, e94_12, e94_16, e94_17, e94_20, e94_23, e94_13 v1, ↓reduceIte, inb_n, ix_n, if_true, ne_eq, Nat.reduceEqDiff, not_false_eq_true, clK_s, tl_s, tl_n, clr_i, clr_n, clr_a, nI_add, gX_3, gX_2, vT t46, a1, pX_10, gT_10 t46, p10]
  · simp (disch := omega) only [e207_0, e207_1, e207_5, e207_6, e207_7, e207_10, e207_11, e207_14, e207_17, e207_18, e207_21, e207_22, e207_23, e207_2 v1, ↓reduceIte, gM_0, a_94, inb_n, ix_n, if_true, ne_eq, Nat.reduceEqDiff, not_false_eq_true, vM, clK_s, tl_s, tl_n, clr_i, clr_n, clr_a, nI_add, pM_3, gM_1, b1, e0]
  · rw [b2 0 (by decide), su_row (by decide), su_rf, pk_us]; rfl
  · rw [b2 93 (by decide), su_rf, pk_us]; rfl
  · refine a3.ext (fun a h1 h2 _ => ?_)
    rw [b2 a (by simp; omega), su_row (by omega), su_row (by omega)]
  · exact MR_cp hM h8 hX (fun i hi => by rw [b3 i hi, e94])
theorem op_back (hI : INV σ A B im) : OK2 σ (Rn E (d + 50) 95 0 [some (.ref 0)] []) (Rn E (d + 50) 208 0 [some (.ref 93)] []) := by
  obtain ⟨⟨hC, hM, hW, hX, hc, hR⟩, ⟨j1, j2, j3⟩, hL⟩ := id hI
  cases im with
  | false =>
    refine ok_read (vv := (-1000000002)) hI ?_ ?_
    · simp (disch := omega) only [e95_0, e95_1, e95_4, e95_7, e95_9, e95_10, e95_11, e95_14, e95_15, e95_18, e95_21, e95_22, e95_25, e95_28, ↓reduceIte, inb_n, ix_n, if_true, ne_eq, Nat.reduceEqDiff, not_false_eq_true, clK_s, tl_s, tl_n, clr_i, clr_n, clr_a, nI_add, gX_10, j1, bI_0, Bool.true_eq_false, Bool.false_eq_true, not_true_eq_false, not_false_eq_true, if_false, reduceCtorEq]
    · simp (disch := omega) only [e208_0, e208_1, e208_4, e208_7, e208_9, e208_10, e208_11, e208_12, e208_15, e208_16, e208_19, e208_22, e208_23, e208_26, e208_27, e208_28, ↓reduceIte, gM_0, a_94, inb_n, ix_n, if_true, ne_eq, Nat.reduceEqDiff, not_false_eq_true, vM, clK_s, tl_s, tl_n, clr_i, clr_n, clr_a, nI_add, gM_3, j2, bI_0, Bool.true_eq_false, Bool.false_eq_true, not_true_eq_false, not_false_eq_true, if_false, reduceCtorEq]
  | true =>
    obtain ⟨k1, k2, k3, k4, k5⟩ := j3 rfl
    have h8 := k3.1
    have hXB : WFx B := ⟨Nat.le_trans k5.length_le hX.1, fun tx ht => hX.2 tx (k5.subset ht)⟩
    have hRB : TR σ (tX B) := fun tz tx hg => hR tz tx (by
      obtain ⟨u, hu⟩ := k5
      rw [← hu]
      have hlt : tz < (tX B).length := by
        rcases Nat.lt_or_ge tz (tX B).length with hq | hq
        · exact hq
        · rw [List.getElem?_eq_none hq] at hg; cases hg
      rw [List.getElem?_append_left hlt]
      exact hg)
    obtain ⟨σ1, a1, a2, a3⟩ := c_takes (E := E) (d := d + 48) t36 t46 (by decide) k1 h8
    have p10 := a3.1
    have e93 : σ1 93 3 = bI true := by rw [a2 93 (by omega) (by omega)]; exact j2
    obtain ⟨σ2, b1, b2, b3⟩ := k_aside (E := E) (d := d + 49) (σ := σ1) (a := 95) (b := 94) (Or.inr (Or.inl rfl)) (Or.inl rfl) (by decide)
    have hM2 : MR (σ2 94) B := MR_cp k2 h8 hXB (fun i hi => by rw [b3 i hi, a2 95 (by omega) (by omega)])
    have e0 := hM2.1
    have hrow : ∀ a, a ≠ 3 → (a < 36 ∨ 46 ≤ a) → a ≠ 94 → σ2 a = σ a := fun a h1 h2 h3 => by rw [b2 a (by simpa using h3), a2 a h1 (by omega)]
    refine ⟨nI (tN B), σ1, σ2, B, B, true, ?_, ?_, ⟨a3.ext (fun a h1 h2 _ => b2 a (by simp; omega)), hM2, k3, hXB, k4, hRB.ext hXB.1 (fun a h1 h2 => hrow a (by omega) (by omega) (by omega))⟩, ⟨by rw [hrow 0 (by omega) (by omega) (by omega)]; exact j1, by rw [hrow 93 (by omega) (by omega) (by omega)]; exact j2, fun _ => ⟨k1.ext (fun a h1 h2 _ => hrow a (by omega) (by omega) (by omega)), by rw [hrow 95 (by omega) (by omega) (by omega)]; exact k2, k3, k4, List.prefix_refl _⟩⟩, ?_⟩
    · simp (disch := omega) only [e95_0, e95_1, e95_4, e95_7, e95_9, e95_10, e95_11, e95_14, e95_15, e95_18, e95_21, e95_22, e95_25, e95_28, ↓reduceIte, inb_n, ix_n, if_true, ne_eq, Nat.reduceEqDiff, not_false_eq_true, clK_s, tl_s, tl_n, clr_i, clr_n, clr_a, nI_add, gX_10, j1, bI_0, Bool.true_eq_false, Bool.false_eq_true, not_true_eq_false, not_false_eq_true, if_false, reduceCtorEq, gX_2, gX_3, vT t36, a1, gT_10 t36, p10]
    · simp (disch := omega) only [e208_0, e208_1, e208_4, e208_7, e208_9, e208_10, e208_11, e208_12, e208_15, e208_16, e208_19, e208_22, e208_23, e208_26, e208_27, e208_28, ↓reduceIte, gM_0, a_94, inb_n, ix_n, if_true, ne_eq, Nat.reduceEqDiff, not_false_eq_true, vM, clK_s, tl_s, tl_n, clr_i, clr_n, clr_a, nI_add, gM_3, e93, bI_0, Bool.true_eq_false, Bool.false_eq_true, not_true_eq_false, not_false_eq_true, if_false, reduceCtorEq, gM_1, b1, e0]
    · obtain ⟨l1, l2, l3, l4⟩ := hL
      exact ⟨l1.ext (fun a ha => hrow a (by omega) (by omega) (by omega)), l2.ext (fun a ha => hrow a (by omega) (by omega) (by omega)), l3.ext (by rw [hrow 34 (by omega) (by omega) (by omega)]) (by rw [hrow 93 (by omega) (by omega) (by omega)]) (hrow 35 (by omega) (by omega) (by omega)) (hrow 107 (by omega) (by omega) (by omega)), l4.ext (by rw [hrow 0 (by omega) (by omega) (by omega)]) (by rw [hrow 93 (by omega) (by omega) (by omega)]) (hrow 68 (by omega) (by omega) (by omega)) (hrow 111 (by omega) (by omega) (by omega))⟩
end Keep
