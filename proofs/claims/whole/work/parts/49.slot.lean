/-! SLOTS -/
/-- only the slots change -/
theorem INV.z {σ σ2 : Nat → Nat → Int32} {A B : Tn} {im : Bool} (hI : INV σ A B im) (h1 : ∀ a, (a < 78 ∨ 93 ≤ a) → (a < 100 ∨ 104 < a) → σ2 a = σ a) (hL : RLz σ2) : INV σ2 A B im := by
  obtain ⟨l1, l2, l3, l4⟩ := hI.2.2
  exact hI.g (fun a ha => h1 a (by omega) (by omega)) (by rw [h1 0 (by omega) (by omega)]) (by rw [h1 93 (by omega) (by omega)]) ⟨l1.ext (fun a ha => h1 a (by omega) (by omega)), hL, l3.ext (by rw [h1 34 (by omega) (by omega)]) (by rw [h1 93 (by omega) (by omega)]) (h1 35 (by omega) (by omega)) (h1 107 (by omega) (by omega)), l4.ext (by rw [h1 0 (by omega) (by omega)]) (by rw [h1 93 (by omega) (by omega)]) (h1 68 (by omega) (by omega)) (h1 111 (by omega) (by omega))⟩
theorem isZ_n {kz : Nat} (hk : kz < 5) : isZ (78 + 3 * kz) := by
  unfold isZ
  omega
theorem isHz_n {kz : Nat} (hk : kz < 5) : isH (78 + 3 * kz + 1) := by
  unfold isH
  omega
section Slots
variable {E : aE} {d h g : Nat} {σ : Nat → Nat → Int32} {A B : Tn} {im : Bool}
def zfV (tv wv : Int32) : Int32 := if tv = nI 0 then (-1000000011) else if tv = wv then nI 0 else (-1000000012)
theorem c_zfBad {xv wv : Int32} (hb : rg 0 4 xv = false) : Rn E (d + 1) 105 0 [some (.ref 0), some (.int xv), some (.int wv)] [] (shp, σ) = some (some (.int (-1000000001)), (shp, σ)) := by
  simp (disch := omega) only [e105_0, e105_1, e105_2, e105_3, e105_6, e105_9, e105_11, e105_12, e105_13, e105_16, e105_17, e105_18, e105_21, e105_24, e105_26, e105_27, e105_28, e105_31, e105_32, e105_33, e105_36, e105_37, e105_40, e105_41, e105_44, e105_46, ↓reduceIte, inb_n, ix_n, if_true, ne_eq, Nat.reduceEqDiff, not_false_eq_true, clK_s, tl_s, tl_n, clr_i, clr_n, clr_a, nI_add, c_isWithin, tI_0, tI_1, tI_2, tI_3, tI_4, tI_5, tI_6, tI_7, tI_8, tI_19, tI_20, tI_23, tI_24, tI_29, tI_30, tI_48, tI_50, tI_57, tI_60, tI_97, tI_100, tI_122, tI_200, tI_99999, tI_m1, tI_m99999, hb, bI_0, Bool.true_eq_false, Bool.false_eq_true, not_true_eq_false, not_false_eq_true, if_false, reduceCtorEq]
theorem c_zf {kz : Nat} {wv : Int32} (hk : kz < 5) : Rn E (d + 1) 105 0 [some (.ref 0), some (.int (nI kz)), some (.int wv)] [] (shp, σ) = some (some (.int (zfV (σ (78 + 3 * kz) 1) wv)), (shp, σ)) := by
  have hb : rg 0 4 (nI kz) = true := by rw [show (4 : Int) = ((4 : Nat) : Int) from rfl, rg_nI (by omega)]; simp; omega
  simp (disch := omega) only [e105_0, e105_1, e105_2, e105_3, e105_6, e105_9, e105_11, e105_12, e105_13, e105_16, e105_17, e105_18, e105_21, e105_24, e105_26, e105_27, e105_28, e105_31, e105_32, e105_33, e105_36, e105_37, e105_40, e105_41, e105_44, e105_46, ↓reduceIte, inb_n, ix_n, if_true, ne_eq, Nat.reduceEqDiff, not_false_eq_true, clK_s, tl_s, tl_n, clr_i, clr_n, clr_a, nI_add, c_isWithin, tI_0, tI_1, tI_2, tI_3, tI_4, tI_5, tI_6, tI_7, tI_8, tI_19, tI_20, tI_23, tI_24, tI_29, tI_30, tI_48, tI_50, tI_57, tI_60, tI_97, tI_100, tI_122, tI_200, tI_99999, tI_m1, tI_m99999, hb, bI_0, Bool.true_eq_false, Bool.false_eq_true, not_true_eq_false, not_false_eq_true, if_false, reduceCtorEq, gX_6, q_67, gZ_1 (isZ_n hk), zfV]
  by_cases hq : σ (78 + 3 * kz) 1 = nI 0
  · simp [hq]
  · by_cases hw : σ (78 + 3 * kz) 1 = wv
    · have hq' : ¬ wv = nI 0 := by rw [← hw]; exact hq
      simp [hw, hq']
    · simp [hq, hw]
theorem op_ask {xv yv : Int32} (hI : INV σ A B im) : OK2 σ (Rn E (d + 50) 89 0 [some (.ref 0), some (.int xv), some (.int yv), none, none] []) (Rn E (d + 50) 201 0 [some (.ref 93), some (.int xv), some (.int yv)] []) := by
  obtain ⟨_, _, hL⟩ := id hI
  have hZ := hL.2.1
  have q0 : ¬ (-1000000001 : Int32) = nI 0 := by decide +kernel
  cases hb : rg 0 4 xv with
  | false =>
    refine ok_read (vv := (-1000000001)) hI ?_ ?_
    · cases hb2 : rg 0 5 yv with
      | false => simp (disch := omega) only [e89_0, e89_1, e89_2, e89_3, e89_6, e89_9, e89_10, e89_11, e89_12, e89_15, e89_18, e89_20, e89_21, e89_22, e89_25, e89_26, e89_27, e89_28, e89_31, e89_32, e89_33, e89_35, e89_37, e89_40, e89_41, e89_44, e89_47, e89_49, e89_52, e89_54, e89_57, e89_60, e89_63, e89_65, ↓reduceIte, inb_n, ix_n, if_true, ne_eq, Nat.reduceEqDiff, not_false_eq_true, clK_s, tl_s, tl_n, clr_i, clr_n, clr_a, nI_add, c_isWithin, tI_0, tI_1, tI_2, tI_3, tI_4, tI_5, tI_6, tI_7, tI_8, tI_19, tI_20, tI_23, tI_24, tI_29, tI_30, tI_48, tI_50, tI_57, tI_60, tI_97, tI_100, tI_122, tI_200, tI_99999, tI_m1, tI_m99999, hb2, bI_0, Bool.true_eq_false, Bool.false_eq_true, not_true_eq_false, not_false_eq_true, if_false, reduceCtorEq, q0]
      | true => simp (disch := omega) only [e89_0, e89_1, e89_2, e89_3, e89_6, e89_9, e89_10, e89_11, e89_12, e89_15, e89_18, e89_20, e89_21, e89_22, e89_25, e89_26, e89_27, e89_28, e89_31, e89_32, e89_33, e89_35, e89_37, e89_40, e89_41, e89_44, e89_47, e89_49, e89_52, e89_54, e89_57, e89_60, e89_63, e89_65, ↓reduceIte, inb_n, ix_n, if_true, ne_eq, Nat.reduceEqDiff, not_false_eq_true, clK_s, tl_s, tl_n, clr_i, clr_n, clr_a, nI_add, c_isWithin, tI_0, tI_1, tI_2, tI_3, tI_4, tI_5, tI_6, tI_7, tI_8, tI_19, tI_20, tI_23, tI_24, tI_29, tI_30, tI_48, tI_50, tI_57, tI_60, tI_97, tI_100, tI_122, tI_200, tI_99999, tI_m1, tI_m99999, hb2, bI_0, Bool.true_eq_false, Bool.false_eq_true, not_true_eq_false, not_false_eq_true, if_false, reduceCtorEq, vX, c_zfBad hb, q0]
    · simp (disch := omega) only [e201_0, e201_1, e201_4, e201_7, e201_8, e201_9, e201_10, e201_13, e201_16, e201_19, e201_21, e201_22, e201_23, e201_26, e201_27, e201_28, e201_31, e201_34, e201_35, e201_36, e201_39, e201_40, e201_41, e201_42, e201_45, e201_46, e201_49, e201_50, e201_51, e201_52, e201_55, e201_58, e201_59, e201_62, e201_63, e201_64, e201_67, e201_69, ↓reduceIte, gM_0, a_94, inb_n, ix_n, if_true, ne_eq, Nat.reduceEqDiff, not_false_eq_true, vM, clK_s, tl_s, tl_n, clr_i, clr_n, clr_a, nI_add, k_isSlot, hb, bI_0, Bool.true_eq_false, Bool.false_eq_true, not_true_eq_false, not_false_eq_true, if_false, reduceCtorEq]
  | true =>
  cases hb2 : rg 0 5 yv with
  | false =>
    refine ok_read (vv := (-1000000001)) hI ?_ ?_
    · simp (disch := omega) only [e89_0, e89_1, e89_2, e89_3, e89_6, e89_9, e89_10, e89_11, e89_12, e89_15, e89_18, e89_20, e89_21, e89_22, e89_25, e89_26, e89_27, e89_28, e89_31, e89_32, e89_33, e89_35, e89_37, e89_40, e89_41, e89_44, e89_47, e89_49, e89_52, e89_54, e89_57, e89_60, e89_63, e89_65, ↓reduceIte, inb_n, ix_n, if_true, ne_eq, Nat.reduceEqDiff, not_false_eq_true, clK_s, tl_s, tl_n, clr_i, clr_n, clr_a, nI_add, c_isWithin, tI_0, tI_1, tI_2, tI_3, tI_4, tI_5, tI_6, tI_7, tI_8, tI_19, tI_20, tI_23, tI_24, tI_29, tI_30, tI_48, tI_50, tI_57, tI_60, tI_97, tI_100, tI_122, tI_200, tI_99999, tI_m1, tI_m99999, hb2, bI_0, Bool.true_eq_false, Bool.false_eq_true, not_true_eq_false, not_false_eq_true, if_false, reduceCtorEq, q0]
    · simp (disch := omega) only [e201_0, e201_1, e201_4, e201_7, e201_8, e201_9, e201_10, e201_13, e201_16, e201_19, e201_21, e201_22, e201_23, e201_26, e201_27, e201_28, e201_31, e201_34, e201_35, e201_36, e201_39, e201_40, e201_41, e201_42, e201_45, e201_46, e201_49, e201_50, e201_51, e201_52, e201_55, e201_58, e201_59, e201_62, e201_63, e201_64, e201_67, e201_69, ↓reduceIte, gM_0, a_94, inb_n, ix_n, if_true, ne_eq, Nat.reduceEqDiff, not_false_eq_true, vM, clK_s, tl_s, tl_n, clr_i, clr_n, clr_a, nI_add, k_isSlot, k_in, rgL_c, tL_0, tL_1, tL_2, tL_3, tL_4, tL_5, tL_6, tL_7, tL_8, tL_19, tL_30, tL_48, tL_50, tL_57, tL_60, tL_97, tL_100, tL_122, tL_200, tL_99999, tL_m1, tL_m99999, hb, hb2, bI_0, Bool.true_eq_false, Bool.false_eq_true, not_true_eq_false, not_false_eq_true, if_false, reduceCtorEq]
  | true =>
    obtain ⟨kz, hk, rfl⟩ := rg_e (n := 4) rfl hb
    obtain ⟨cz, hc, rfl⟩ := rg_e (n := 5) rfl hb2
    have hk : kz < 5 := by omega
    have hc : cz < 6 := by omega
    obtain ⟨z1, ⟨n, hn, z2⟩, z3, z4, z5⟩ := hZ kz hk
    have hc1 : σ (78 + 3 * kz) 1 = nI n := by rw [z1, z2]
    by_cases h0 : n = 0
    · subst h0
      have hf : zfV (σ (78 + 3 * kz) 1) (nI 1) = (-1000000011) := by unfold zfV; rw [hc1, if_pos rfl]
      have q1 : ¬ (-1000000011 : Int32) = nI 0 := by decide +kernel
      refine ok_read (vv := (-1000000011)) hI ?_ ?_
      · simp (disch := omega) only [e89_0, e89_1, e89_2, e89_3, e89_6, e89_9, e89_10, e89_11, e89_12, e89_15, e89_18, e89_20, e89_21, e89_22, e89_25, e89_26, e89_27, e89_28, e89_31, e89_32, e89_33, e89_35, e89_37, e89_40, e89_41, e89_44, e89_47, e89_49, e89_52, e89_54, e89_57, e89_60, e89_63, e89_65, ↓reduceIte, inb_n, ix_n, if_true, ne_eq, Nat.reduceEqDiff, not_false_eq_true, clK_s, tl_s, tl_n, clr_i, clr_n, clr_a, nI_add, c_isWithin, tI_0, tI_1, tI_2, tI_3, tI_4, tI_5, tI_6, tI_7, tI_8, tI_19, tI_20, tI_23, tI_24, tI_29, tI_30, tI_48, tI_50, tI_57, tI_60, tI_97, tI_100, tI_122, tI_200, tI_99999, tI_m1, tI_m99999, hb, hb2, bI_0, Bool.true_eq_false, Bool.false_eq_true, not_true_eq_false, not_false_eq_true, if_false, reduceCtorEq, vX, c_zf hk, hf, q1]
      · simp (disch := omega) only [e201_0, e201_1, e201_4, e201_7, e201_8, e201_9, e201_10, e201_13, e201_16, e201_19, e201_21, e201_22, e201_23, e201_26, e201_27, e201_28, e201_31, e201_34, e201_35, e201_36, e201_39, e201_40, e201_41, e201_42, e201_45, e201_46, e201_49, e201_50, e201_51, e201_52, e201_55, e201_58, e201_59, e201_62, e201_63, e201_64, e201_67, e201_69, ↓reduceIte, gM_0, a_94, inb_n, ix_n, if_true, ne_eq, Nat.reduceEqDiff, not_false_eq_true, vM, clK_s, tl_s, tl_n, clr_i, clr_n, clr_a, nI_add, k_isSlot, k_in, rgL_c, tL_0, tL_1, tL_2, tL_3, tL_4, tL_5, tL_6, tL_7, tL_8, tL_19, tL_30, tL_48, tL_50, tL_57, tL_60, tL_97, tL_100, tL_122, tL_200, tL_99999, tL_m1, tL_m99999, hb, hb2, bI_0, Bool.true_eq_false, Bool.false_eq_true, not_true_eq_false, not_false_eq_true, if_false, reduceCtorEq, gM_7, a_100, z2]
    · have h0' : ¬ nI n = nI 0 := fun z => h0 ((nI_eq (by omega) (by omega)).mp z)
      by_cases h1 : n = 1
      · subst h1
        obtain ⟨⟨oz, ho, y1⟩, y2, y3⟩ := z3 z2
        have hf : zfV (σ (78 + 3 * kz) 1) (nI 1) = nI 0 := by unfold zfV; rw [hc1, if_neg h0', if_pos rfl]
        have c2 : σ (78 + 3 * kz) 2 = nI oz := by rw [y2, y1]
        rw [y1] at y3
        refine ok_read (vv := if unB oz cz = true then woK (nI oz) (σ (78 + 3 * kz) 3) else (-1000000012)) hI ?_ ?_
        · simp (disch := omega) only [e89_0, e89_1, e89_2, e89_3, e89_6, e89_9, e89_10, e89_11, e89_12, e89_15, e89_18, e89_20, e89_21, e89_22, e89_25, e89_26, e89_27, e89_28, e89_31, e89_32, e89_33, e89_35, e89_37, e89_40, e89_41, e89_44, e89_47, e89_49, e89_52, e89_54, e89_57, e89_60, e89_63, e89_65, ↓reduceIte, inb_n, ix_n, if_true, ne_eq, Nat.reduceEqDiff, not_false_eq_true, clK_s, tl_s, tl_n, clr_i, clr_n, clr_a, nI_add, c_isWithin, tI_0, tI_1, tI_2, tI_3, tI_4, tI_5, tI_6, tI_7, tI_8, tI_19, tI_20, tI_23, tI_24, tI_29, tI_30, tI_48, tI_50, tI_57, tI_60, tI_97, tI_100, tI_122, tI_200, tI_99999, tI_m1, tI_m99999, hb, hb2, bI_0, Bool.true_eq_false, Bool.false_eq_true, not_true_eq_false, not_false_eq_true, if_false, reduceCtorEq, vX, c_zf hk, hf, gX_6, q_67, gZ_2 (isZ_n hk), gZ_3 (isZ_n hk), c2, c_isUnder ho hc, c_worth ho]
          cases unB oz cz <;> simp
        · simp (disch := omega) only [e201_0, e201_1, e201_4, e201_7, e201_8, e201_9, e201_10, e201_13, e201_16, e201_19, e201_21, e201_22, e201_23, e201_26, e201_27, e201_28, e201_31, e201_34, e201_35, e201_36, e201_39, e201_40, e201_41, e201_42, e201_45, e201_46, e201_49, e201_50, e201_51, e201_52, e201_55, e201_58, e201_59, e201_62, e201_63, e201_64, e201_67, e201_69, ↓reduceIte, gM_0, a_94, inb_n, ix_n, if_true, ne_eq, Nat.reduceEqDiff, not_false_eq_true, vM, clK_s, tl_s, tl_n, clr_i, clr_n, clr_a, nI_add, k_isSlot, k_in, rgL_c, tL_0, tL_1, tL_2, tL_3, tL_4, tL_5, tL_6, tL_7, tL_8, tL_19, tL_30, tL_48, tL_50, tL_57, tL_60, tL_97, tL_100, tL_122, tL_200, tL_99999, tL_m1, tL_m99999, hb, hb2, bI_0, Bool.true_eq_false, Bool.false_eq_true, not_true_eq_false, not_false_eq_true, if_false, reduceCtorEq, gM_7, gM_8, gM_9, a_100, a_101, a_102, z2, h0', y1, y3, k_isOf ho hc]
          cases unB oz cz <;> simp
      · have h1' : ¬ nI n = nI 1 := fun z => h1 ((nI_eq (by omega) (by omega)).mp z)
        have hf : zfV (σ (78 + 3 * kz) 1) (nI 1) = (-1000000012) := by unfold zfV; rw [hc1, if_neg h0', if_neg h1']
        have q1 : ¬ (-1000000012 : Int32) = nI 0 := by decide +kernel
        refine ok_read (vv := (-1000000012)) hI ?_ ?_
        · simp (disch := omega) only [e89_0, e89_1, e89_2, e89_3, e89_6, e89_9, e89_10, e89_11, e89_12, e89_15, e89_18, e89_20, e89_21, e89_22, e89_25, e89_26, e89_27, e89_28, e89_31, e89_32, e89_33, e89_35, e89_37, e89_40, e89_41, e89_44, e89_47, e89_49, e89_52, e89_54, e89_57, e89_60, e89_63, e89_65, ↓reduceIte, inb_n, ix_n, if_true, ne_eq, Nat.reduceEqDiff, not_false_eq_true, clK_s, tl_s, tl_n, clr_i, clr_n, clr_a, nI_add, c_isWithin, tI_0, tI_1, tI_2, tI_3, tI_4, tI_5, tI_6, tI_7, tI_8, tI_19, tI_20, tI_23, tI_24, tI_29, tI_30, tI_48, tI_50, tI_57, tI_60, tI_97, tI_100, tI_122, tI_200, tI_99999, tI_m1, tI_m99999, hb, hb2, bI_0, Bool.true_eq_false, Bool.false_eq_true, not_true_eq_false, not_false_eq_true, if_false, reduceCtorEq, vX, c_zf hk, hf, q1]
        · simp (disch := omega) only [e201_0, e201_1, e201_4, e201_7, e201_8, e201_9, e201_10, e201_13, e201_16, e201_19, e201_21, e201_22, e201_23, e201_26, e201_27, e201_28, e201_31, e201_34, e201_35, e201_36, e201_39, e201_40, e201_41, e201_42, e201_45, e201_46, e201_49, e201_50, e201_51, e201_52, e201_55, e201_58, e201_59, e201_62, e201_63, e201_64, e201_67, e201_69, ↓reduceIte, gM_0, a_94, inb_n, ix_n, if_true, ne_eq, Nat.reduceEqDiff, not_false_eq_true, vM, clK_s, tl_s, tl_n, clr_i, clr_n, clr_a, nI_add, k_isSlot, k_in, rgL_c, tL_0, tL_1, tL_2, tL_3, tL_4, tL_5, tL_6, tL_7, tL_8, tL_19, tL_30, tL_48, tL_50, tL_57, tL_60, tL_97, tL_100, tL_122, tL_200, tL_99999, tL_m1, tL_m99999, hb, hb2, bI_0, Bool.true_eq_false, Bool.false_eq_true, not_true_eq_false, not_false_eq_true, if_false, reduceCtorEq, gM_7, a_100, z2, h0', h1']
theorem op_item {xv yv : Int32} (hI : INV σ A B im) : OK2 σ (Rn E (d + 50) 90 0 [some (.ref 0), some (.int xv), some (.int yv), none, none] []) (Rn E (d + 50) 202 0 [some (.ref 93), some (.int xv), some (.int yv), none] []) := by
  obtain ⟨_, _, hL⟩ := id hI
  have hZ := hL.2.1
  cases hb : rg 0 4 xv with
  | false =>
    have q1 : ¬ (-1000000001 : Int32) = nI 0 := by decide +kernel
    refine ok_read (vv := (-1000000001)) hI ?_ ?_
    · simp (disch := omega) only [e90_0, e90_1, e90_2, e90_3, e90_6, e90_7, e90_8, e90_11, e90_12, e90_13, e90_14, e90_17, e90_18, e90_19, e90_22, e90_24, e90_25, e90_26, e90_28, e90_31, e90_32, e90_33, e90_36, e90_39, e90_41, e90_42, e90_44, e90_47, e90_48, e90_49, e90_51, e90_54, e90_56, e90_59, e90_61, e90_64, e90_65, e90_66, ↓reduceIte, inb_n, ix_n, if_true, ne_eq, Nat.reduceEqDiff, not_false_eq_true, clK_s, tl_s, tl_n, clr_i, clr_n, clr_a, nI_add, vX, c_zfBad hb, q1]
    · simp (disch := omega) only [e202_0, e202_1, e202_4, e202_7, e202_9, e202_10, e202_11, e202_14, e202_15, e202_16, e202_17, e202_20, e202_21, e202_24, e202_25, e202_26, e202_29, e202_32, e202_35, e202_37, e202_38, e202_39, e202_40, e202_41, e202_42, e202_45, e202_46, e202_47, e202_48, e202_49, e202_50, e202_53, e202_56, e202_59, e202_60, e202_61, e202_64, e202_66, e202_67, e202_68, e202_69, e202_70, e202_71, e202_72, e202_73, e202_75, e202_78, e202_80, e202_83, e202_84, ↓reduceIte, gM_0, a_94, inb_n, ix_n, if_true, ne_eq, Nat.reduceEqDiff, not_false_eq_true, vM, clK_s, tl_s, tl_n, clr_i, clr_n, clr_a, nI_add, k_isSlot, hb, bI_0, Bool.true_eq_false, Bool.false_eq_true, not_true_eq_false, not_false_eq_true, if_false, reduceCtorEq]
  | true =>
    obtain ⟨kz, hk, rfl⟩ := rg_e (n := 4) rfl hb
    have hk : kz < 5 := by omega
    obtain ⟨z1, ⟨n, hn, z2⟩, z3, z4, z5⟩ := hZ kz hk
    have hc1 : σ (78 + 3 * kz) 1 = nI n := by rw [z1, z2]
    by_cases h0 : n = 0
    · subst h0
      have hf : zfV (σ (78 + 3 * kz) 1) (nI 2) = (-1000000011) := by unfold zfV; rw [hc1, if_pos rfl]
      have q1 : ¬ (-1000000011 : Int32) = nI 0 := by decide +kernel
      have q2 : ¬ nI 0 = nI 2 := by decide +kernel
      refine ok_read (vv := (-1000000011)) hI ?_ ?_
      · simp (disch := omega) only [e90_0, e90_1, e90_2, e90_3, e90_6, e90_7, e90_8, e90_11, e90_12, e90_13, e90_14, e90_17, e90_18, e90_19, e90_22, e90_24, e90_25, e90_26, e90_28, e90_31, e90_32, e90_33, e90_36, e90_39, e90_41, e90_42, e90_44, e90_47, e90_48, e90_49, e90_51, e90_54, e90_56, e90_59, e90_61, e90_64, e90_65, e90_66, ↓reduceIte, inb_n, ix_n, if_true, ne_eq, Nat.reduceEqDiff, not_false_eq_true, clK_s, tl_s, tl_n, clr_i, clr_n, clr_a, nI_add, vX, c_zf hk, hf, q1]
      · simp (disch := omega) only [e202_0, e202_1, e202_4, e202_7, e202_9, e202_10, e202_11, e202_14, e202_15, e202_16, e202_17, e202_20, e202_21, e202_24, e202_25, e202_26, e202_29, e202_32, e202_35, e202_37, e202_38, e202_39, e202_40, e202_41, e202_42, e202_45, e202_46, e202_47, e202_48, e202_49, e202_50, e202_53, e202_56, e202_59, e202_60, e202_61, e202_64, e202_66, e202_67, e202_68, e202_69, e202_70, e202_71, e202_72, e202_73, e202_75, e202_78, e202_80, e202_83, e202_84, ↓reduceIte, gM_0, a_94, inb_n, ix_n, if_true, ne_eq, Nat.reduceEqDiff, not_false_eq_true, vM, clK_s, tl_s, tl_n, clr_i, clr_n, clr_a, nI_add, k_isSlot, hb, bI_0, Bool.true_eq_false, Bool.false_eq_true, not_true_eq_false, not_false_eq_true, if_false, reduceCtorEq, gM_7, a_100, z2, q2]
    · have h0' : ¬ nI n = nI 0 := fun z => h0 ((nI_eq (by omega) (by omega)).mp z)
      by_cases h1 : n = 2
      · subst h1
        obtain ⟨y1, ⟨m, hm, y2⟩, y3⟩ := z4 z2
        have hf : zfV (σ (78 + 3 * kz) 1) (nI 2) = nI 0 := by unfold zfV; rw [hc1, if_neg h0', if_pos rfl]
        have c2 : σ (78 + 3 * kz + 1) 2 = nI m := by rw [y1, y2]
        cases hp : inB m yv with
        | false =>
          have hp2 : rg 0 (nI m - nI 1).toInt yv = false := by rw [len_rg hm]; exact hp
          refine ok_read (vv := (-1000000013)) hI ?_ ?_
          · simp (disch := omega) only [e90_0, e90_1, e90_2, e90_3, e90_6, e90_7, e90_8, e90_11, e90_12, e90_13, e90_14, e90_17, e90_18, e90_19, e90_22, e90_24, e90_25, e90_26, e90_28, e90_31, e90_32, e90_33, e90_36, e90_39, e90_41, e90_42, e90_44, e90_47, e90_48, e90_49, e90_51, e90_54, e90_56, e90_59, e90_61, e90_64, e90_65, e90_66, ↓reduceIte, inb_n, ix_n, if_true, ne_eq, Nat.reduceEqDiff, not_false_eq_true, clK_s, tl_s, tl_n, clr_i, clr_n, clr_a, nI_add, vX, c_zf hk, hf, gX_6, q_67, gZ_0 (isZ_n hk), gH_2 (isHz_n hk), c2, c_isWithin, tI_0, tI_1, tI_2, tI_3, tI_4, tI_5, tI_6, tI_7, tI_8, tI_19, tI_20, tI_23, tI_24, tI_29, tI_30, tI_48, tI_50, tI_57, tI_60, tI_97, tI_100, tI_122, tI_200, tI_99999, tI_m1, tI_m99999, hp2, bI_0, Bool.true_eq_false, Bool.false_eq_true, not_true_eq_false, not_false_eq_true, if_false, reduceCtorEq]
          · simp (disch := omega) only [e202_0, e202_1, e202_4, e202_7, e202_9, e202_10, e202_11, e202_14, e202_15, e202_16, e202_17, e202_20, e202_21, e202_24, e202_25, e202_26, e202_29, e202_32, e202_35, e202_37, e202_38, e202_39, e202_40, e202_41, e202_42, e202_45, e202_46, e202_47, e202_48, e202_49, e202_50, e202_53, e202_56, e202_59, e202_60, e202_61, e202_64, e202_66, e202_67, e202_68, e202_69, e202_70, e202_71, e202_72, e202_73, e202_75, e202_78, e202_80, e202_83, e202_84, ↓reduceIte, gM_0, a_94, inb_n, ix_n, if_true, ne_eq, Nat.reduceEqDiff, not_false_eq_true, vM, clK_s, tl_s, tl_n, clr_i, clr_n, clr_a, nI_add, k_isSlot, hb, bI_0, Bool.true_eq_false, Bool.false_eq_true, not_true_eq_false, not_false_eq_true, if_false, reduceCtorEq, gM_7, a_100, z2, gM_10, a_103, y2, k_in, rgL_c, tL_0, tL_1, tL_2, tL_3, tL_4, tL_5, tL_6, tL_7, tL_8, tL_19, tL_30, tL_48, tL_50, tL_57, tL_60, tL_97, tL_100, tL_122, tL_200, tL_99999, tL_m1, tL_m99999, Int32.toInt_toInt64, hp2]
        | true =>
          have hp2 : rg 0 (nI m - nI 1).toInt yv = true := by rw [len_rg hm]; exact hp
          obtain ⟨iz, hi, rfl⟩ := inB_ex hp
          have c3 := y3 iz (by omega)
          refine ok_read (vv := if σ 104 (24 * kz + iz) = (-1000000005) then (-1000000012) else σ 104 (24 * kz + iz)) hI ?_ ?_
          · simp (disch := omega) only [e90_0, e90_1, e90_2, e90_3, e90_6, e90_7, e90_8, e90_11, e90_12, e90_13, e90_14, e90_17, e90_18, e90_19, e90_22, e90_24, e90_25, e90_26, e90_28, e90_31, e90_32, e90_33, e90_36, e90_39, e90_41, e90_42, e90_44, e90_47, e90_48, e90_49, e90_51, e90_54, e90_56, e90_59, e90_61, e90_64, e90_65, e90_66, ↓reduceIte, inb_n, ix_n, if_true, ne_eq, Nat.reduceEqDiff, not_false_eq_true, clK_s, tl_s, tl_n, clr_i, clr_n, clr_a, nI_add, vX, c_zf hk, hf, gX_6, q_67, gZ_0 (isZ_n hk), gH_2 (isHz_n hk), gH_0 (isHz_n hk), aH_1 (isHz_n hk), c2, c3, c_isWithin, tI_0, tI_1, tI_2, tI_3, tI_4, tI_5, tI_6, tI_7, tI_8, tI_19, tI_20, tI_23, tI_24, tI_29, tI_30, tI_48, tI_50, tI_57, tI_60, tI_97, tI_100, tI_122, tI_200, tI_99999, tI_m1, tI_m99999, hp2, bI_0, Bool.true_eq_false, Bool.false_eq_true, not_true_eq_false, not_false_eq_true, if_false, reduceCtorEq]
            by_cases hq : σ 104 (24 * kz + iz) = (-1000000005) <;> simp [hq]
          · simp (disch := omega) only [e202_0, e202_1, e202_4, e202_7, e202_9, e202_10, e202_11, e202_14, e202_15, e202_16, e202_17, e202_20, e202_21, e202_24, e202_25, e202_26, e202_29, e202_32, e202_35, e202_37, e202_38, e202_39, e202_40, e202_41, e202_42, e202_45, e202_46, e202_47, e202_48, e202_49, e202_50, e202_53, e202_56, e202_59, e202_60, e202_61, e202_64, e202_66, e202_67, e202_68, e202_69, e202_70, e202_71, e202_72, e202_73, e202_75, e202_78, e202_80, e202_83, e202_84, ↓reduceIte, gM_0, a_94, inb_n, ix_n, if_true, ne_eq, Nat.reduceEqDiff, not_false_eq_true, vM, clK_s, tl_s, tl_n, clr_i, clr_n, clr_a, nI_add, k_isSlot, hb, bI_0, Bool.true_eq_false, Bool.false_eq_true, not_true_eq_false, not_false_eq_true, if_false, reduceCtorEq, gM_7, a_100, z2, gM_10, gM_11, a_103, a_104, y2, k_in, rgL_c, tL_0, tL_1, tL_2, tL_3, tL_4, tL_5, tL_6, tL_7, tL_8, tL_19, tL_30, tL_48, tL_50, tL_57, tL_60, tL_97, tL_100, tL_122, tL_200, tL_99999, tL_m1, tL_m99999, Int32.toInt_toInt64, hp2, pk_mul]
            by_cases hq : σ 104 (24 * kz + iz) = (-1000000005) <;> simp [hq]
      · have h1' : ¬ nI n = nI 2 := fun z => h1 ((nI_eq (by omega) (by omega)).mp z)
        have hf : zfV (σ (78 + 3 * kz) 1) (nI 2) = (-1000000012) := by unfold zfV; rw [hc1, if_neg h0', if_neg h1']
        have q1 : ¬ (-1000000012 : Int32) = nI 0 := by decide +kernel
        refine ok_read (vv := (-1000000012)) hI ?_ ?_
        · simp (disch := omega) only [e90_0, e90_1, e90_2, e90_3, e90_6, e90_7, e90_8, e90_11, e90_12, e90_13, e90_14, e90_17, e90_18, e90_19, e90_22, e90_24, e90_25, e90_26, e90_28, e90_31, e90_32, e90_33, e90_36, e90_39, e90_41, e90_42, e90_44, e90_47, e90_48, e90_49, e90_51, e90_54, e90_56, e90_59, e90_61, e90_64, e90_65, e90_66, ↓reduceIte, inb_n, ix_n, if_true, ne_eq, Nat.reduceEqDiff, not_false_eq_true, clK_s, tl_s, tl_n, clr_i, clr_n, clr_a, nI_add, vX, c_zf hk, hf, q1]
        · simp (disch := omega) only [e202_0, e202_1, e202_4, e202_7, e202_9, e202_10, e202_11, e202_14, e202_15, e202_16, e202_17, e202_20, e202_21, e202_24, e202_25, e202_26, e202_29, e202_32, e202_35, e202_37, e202_38, e202_39, e202_40, e202_41, e202_42, e202_45, e202_46, e202_47, e202_48, e202_49, e202_50, e202_53, e202_56, e202_59, e202_60, e202_61, e202_64, e202_66, e202_67, e202_68, e202_69, e202_70, e202_71, e202_72, e202_73, e202_75, e202_78, e202_80, e202_83, e202_84, ↓reduceIte, gM_0, a_94, inb_n, ix_n, if_true, ne_eq, Nat.reduceEqDiff, not_false_eq_true, vM, clK_s, tl_s, tl_n, clr_i, clr_n, clr_a, nI_add, k_isSlot, hb, bI_0, Bool.true_eq_false, Bool.false_eq_true, not_true_eq_false, not_false_eq_true, if_false, reduceCtorEq, gM_7, a_100, z2, h0', h1']
theorem op_rest {xv yv : Int32} (hI : INV σ A B im) : OK2 σ (Rn E (d + 50) 91 0 [some (.ref 0), some (.int xv), some (.int yv), none] []) (Rn E (d + 50) 203 0 [some (.ref 93), some (.int xv), some (.int yv)] []) := by
  obtain ⟨_, _, hL⟩ := id hI
  have hZ := hL.2.1
  cases hb : rg 0 4 xv with
  | false =>
    have q1 : ¬ (-1000000001 : Int32) = nI 0 := by decide +kernel
    refine ok_read (vv := (-1000000001)) hI ?_ ?_
    · simp (disch := omega) only [e91_0, e91_1, e91_2, e91_3, e91_6, e91_7, e91_8, e91_11, e91_12, e91_13, e91_14, e91_17, e91_19, e91_22, e91_23, e91_26, e91_27, e91_28, e91_31, e91_32, e91_33, ↓reduceIte, inb_n, ix_n, if_true, ne_eq, Nat.reduceEqDiff, not_false_eq_true, clK_s, tl_s, tl_n, clr_i, clr_n, clr_a, nI_add, vX, c_zfBad hb, q1]
    · simp (disch := omega) only [e203_0, e203_1, e203_4, e203_7, e203_9, e203_10, e203_11, e203_14, e203_15, e203_16, e203_17, e203_20, e203_21, e203_24, e203_25, e203_26, e203_29, e203_32, e203_35, e203_37, e203_38, e203_39, e203_42, e203_44, e203_47, e203_48, e203_51, e203_52, e203_53, e203_54, e203_55, ↓reduceIte, gM_0, a_94, inb_n, ix_n, if_true, ne_eq, Nat.reduceEqDiff, not_false_eq_true, vM, clK_s, tl_s, tl_n, clr_i, clr_n, clr_a, nI_add, k_isSlot, hb, bI_0, Bool.true_eq_false, Bool.false_eq_true, not_true_eq_false, not_false_eq_true, if_false, reduceCtorEq]
  | true =>
    obtain ⟨kz, hk, rfl⟩ := rg_e (n := 4) rfl hb
    have hk : kz < 5 := by omega
    obtain ⟨z1, ⟨n, hn, z2⟩, z3, z4, z5⟩ := hZ kz hk
    have hc1 : σ (78 + 3 * kz) 1 = nI n := by rw [z1, z2]
    by_cases h0 : n = 0
    · subst h0
      have hf : zfV (σ (78 + 3 * kz) 1) (nI 3) = (-1000000011) := by unfold zfV; rw [hc1, if_pos rfl]
      have q1 : ¬ (-1000000011 : Int32) = nI 0 := by decide +kernel
      have q2 : ¬ nI 0 = nI 3 := by decide +kernel
      refine ok_read (vv := (-1000000011)) hI ?_ ?_
      · simp (disch := omega) only [e91_0, e91_1, e91_2, e91_3, e91_6, e91_7, e91_8, e91_11, e91_12, e91_13, e91_14, e91_17, e91_19, e91_22, e91_23, e91_26, e91_27, e91_28, e91_31, e91_32, e91_33, ↓reduceIte, inb_n, ix_n, if_true, ne_eq, Nat.reduceEqDiff, not_false_eq_true, clK_s, tl_s, tl_n, clr_i, clr_n, clr_a, nI_add, vX, c_zf hk, hf, q1]
      · simp (disch := omega) only [e203_0, e203_1, e203_4, e203_7, e203_9, e203_10, e203_11, e203_14, e203_15, e203_16, e203_17, e203_20, e203_21, e203_24, e203_25, e203_26, e203_29, e203_32, e203_35, e203_37, e203_38, e203_39, e203_42, e203_44, e203_47, e203_48, e203_51, e203_52, e203_53, e203_54, e203_55, ↓reduceIte, gM_0, a_94, inb_n, ix_n, if_true, ne_eq, Nat.reduceEqDiff, not_false_eq_true, vM, clK_s, tl_s, tl_n, clr_i, clr_n, clr_a, nI_add, k_isSlot, hb, bI_0, Bool.true_eq_false, Bool.false_eq_true, not_true_eq_false, not_false_eq_true, if_false, reduceCtorEq, gM_7, a_100, z2, q2]
    · have h0' : ¬ nI n = nI 0 := fun z => h0 ((nI_eq (by omega) (by omega)).mp z)
      by_cases h1 : n = 3
      · subst h1
        have y1 := z5 z2
        have hf : zfV (σ (78 + 3 * kz) 1) (nI 3) = nI 0 := by unfold zfV; rw [hc1, if_neg h0', if_pos rfl]
        by_cases hy : yv = nI 0
        · refine ok_read (vv := (-1000000002)) hI ?_ ?_
          · simp (disch := omega) only [e91_0, e91_1, e91_2, e91_3, e91_6, e91_7, e91_8, e91_11, e91_12, e91_13, e91_14, e91_17, e91_19, e91_22, e91_23, e91_26, e91_27, e91_28, e91_31, e91_32, e91_33, ↓reduceIte, inb_n, ix_n, if_true, ne_eq, Nat.reduceEqDiff, not_false_eq_true, clK_s, tl_s, tl_n, clr_i, clr_n, clr_a, nI_add, vX, c_zf hk, hf, hy, not_true_eq_false]
          · simp (disch := omega) only [e203_0, e203_1, e203_4, e203_7, e203_9, e203_10, e203_11, e203_14, e203_15, e203_16, e203_17, e203_20, e203_21, e203_24, e203_25, e203_26, e203_29, e203_32, e203_35, e203_37, e203_38, e203_39, e203_42, e203_44, e203_47, e203_48, e203_51, e203_52, e203_53, e203_54, e203_55, ↓reduceIte, gM_0, a_94, inb_n, ix_n, if_true, ne_eq, Nat.reduceEqDiff, not_false_eq_true, vM, clK_s, tl_s, tl_n, clr_i, clr_n, clr_a, nI_add, k_isSlot, hb, bI_0, Bool.true_eq_false, Bool.false_eq_true, not_true_eq_false, not_false_eq_true, if_false, reduceCtorEq, gM_7, a_100, z2, hy]
        · have hy0 : ¬ yv = 0 := fun z => hy (z.trans nI_0.symm)
          refine ok_read (vv := σ 101 kz - σ 101 kz / yv * yv) hI ?_ ?_
          · simp (disch := omega) only [e91_0, e91_1, e91_2, e91_3, e91_6, e91_7, e91_8, e91_11, e91_12, e91_13, e91_14, e91_17, e91_19, e91_22, e91_23, e91_26, e91_27, e91_28, e91_31, e91_32, e91_33, ↓reduceIte, inb_n, ix_n, if_true, ne_eq, Nat.reduceEqDiff, not_false_eq_true, clK_s, tl_s, tl_n, clr_i, clr_n, clr_a, nI_add, vX, c_zf hk, hf, hy, gX_6, q_67, gZ_4 (isZ_n hk), y1, rmK, hy0]
          · simp (disch := omega) only [e203_0, e203_1, e203_4, e203_7, e203_9, e203_10, e203_11, e203_14, e203_15, e203_16, e203_17, e203_20, e203_21, e203_24, e203_25, e203_26, e203_29, e203_32, e203_35, e203_37, e203_38, e203_39, e203_42, e203_44, e203_47, e203_48, e203_51, e203_52, e203_53, e203_54, e203_55, ↓reduceIte, gM_0, a_94, inb_n, ix_n, if_true, ne_eq, Nat.reduceEqDiff, not_false_eq_true, vM, clK_s, tl_s, tl_n, clr_i, clr_n, clr_a, nI_add, k_isSlot, hb, bI_0, Bool.true_eq_false, Bool.false_eq_true, not_true_eq_false, not_false_eq_true, if_false, reduceCtorEq, gM_7, gM_8, a_100, a_101, z2, hy, rmK, hy0]
      · have h1' : ¬ nI n = nI 3 := fun z => h1 ((nI_eq (by omega) (by omega)).mp z)
        have hf : zfV (σ (78 + 3 * kz) 1) (nI 3) = (-1000000012) := by unfold zfV; rw [hc1, if_neg h0', if_neg h1']
        have q1 : ¬ (-1000000012 : Int32) = nI 0 := by decide +kernel
        refine ok_read (vv := (-1000000012)) hI ?_ ?_
        · simp (disch := omega) only [e91_0, e91_1, e91_2, e91_3, e91_6, e91_7, e91_8, e91_11, e91_12, e91_13, e91_14, e91_17, e91_19, e91_22, e91_23, e91_26, e91_27, e91_28, e91_31, e91_32, e91_33, ↓reduceIte, inb_n, ix_n, if_true, ne_eq, Nat.reduceEqDiff, not_false_eq_true, clK_s, tl_s, tl_n, clr_i, clr_n, clr_a, nI_add, vX, c_zf hk, hf, q1]
        · simp (disch := omega) only [e203_0, e203_1, e203_4, e203_7, e203_9, e203_10, e203_11, e203_14, e203_15, e203_16, e203_17, e203_20, e203_21, e203_24, e203_25, e203_26, e203_29, e203_32, e203_35, e203_37, e203_38, e203_39, e203_42, e203_44, e203_47, e203_48, e203_51, e203_52, e203_53, e203_54, e203_55, ↓reduceIte, gM_0, a_94, inb_n, ix_n, if_true, ne_eq, Nat.reduceEqDiff, not_false_eq_true, vM, clK_s, tl_s, tl_n, clr_i, clr_n, clr_a, nI_add, k_isSlot, hb, bI_0, Bool.true_eq_false, Bool.false_eq_true, not_true_eq_false, not_false_eq_true, if_false, reduceCtorEq, gM_7, a_100, z2, h0', h1']
end Slots
