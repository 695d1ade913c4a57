/-! OPERATIONS: screens, looks, one, deal -/
theorem gb1 : ∀ pz, pz < 20 → ∀ i, i < 32 → (nI 1 <<< (nI pz &&& 31)).toBitVec.getLsbD i = decide (i = pz) := by decide +kernel
theorem gbm : ∀ i, i < 32 → (-1 : Int32).toBitVec.getLsbD i = true := by decide +kernel
theorem sc_bit {cv : Int32} {qz : Nat} (hq : qz < 20) : scB cv (nI qz) = cv.toBitVec.getLsbD qz := by
  have hs : ∀ q, q < 20 → ((nI q &&& 31).toBitVec.smod 32).toNat = q := by decide +kernel
  unfold scB
  rw [pk_and _ 1 (by decide)]
  have h1 : (cv >>> (nI qz &&& 31)).toBitVec.getLsbD 0 = cv.toBitVec.getLsbD qz := by
    rw [Int32.toBitVec_shiftRight, BitVec.sshiftRight', BitVec.getLsbD_sshiftRight, hs qz hq, Nat.add_zero, if_pos (by omega)]
    simp
  have h2 : (cv >>> (nI qz &&& 31)).toBitVec.toNat % 2 = if cv.toBitVec.getLsbD qz = true then 1 else 0 := by
    rw [← h1]
    have : (cv >>> (nI qz &&& 31)).toBitVec.getLsbD 0 = decide ((cv >>> (nI qz &&& 31)).toBitVec.toNat % 2 = 1) := by
      rw [BitVec.getLsbD, Nat.testBit_zero]
    rw [this]
    generalize (cv >>> (nI qz &&& 31)).toBitVec.toNat = tz
    rcases Nat.mod_two_eq_zero_or_one tz with h | h <;> simp [h]
  rw [show (2 : Nat) ^ 1 = 2 from rfl, h2]
  cases cv.toBitVec.getLsbD qz
  · exact decide_eq_false (by decide +kernel)
  · exact decide_eq_true rfl
theorem i32_ext {xv yv : Int32} (h : ∀ i, i < 32 → xv.toBitVec.getLsbD i = yv.toBitVec.getLsbD i) : xv = yv := Int32.toBitVec_inj.mp (BitVec.eq_of_getLsbD_eq h)
theorem sc_xor {cv : Int32} {pz qz : Nat} (hp : pz < 20) (hq : qz < 20) : scB (cv ^^^ nI 1 <<< (nI pz &&& 31)) (nI qz) = (scB cv (nI qz) ^^ decide (qz = pz)) := by
  rw [sc_bit hq, sc_bit hq, Int32.toBitVec_xor, BitVec.getLsbD_xor, gb1 pz hp qz (by omega)]
theorem sc_or {cv : Int32} {pz : Nat} (hp : pz < 20) (h : scB cv (nI pz) = false) : cv ||| nI 1 <<< (nI pz &&& 31) = cv ^^^ nI 1 <<< (nI pz &&& 31) := by
  rw [sc_bit hp] at h
  refine i32_ext (fun i hi => ?_)
  rw [Int32.toBitVec_or, Int32.toBitVec_xor, BitVec.getLsbD_or, BitVec.getLsbD_xor, gb1 pz hp i hi]
  by_cases hq : i = pz
  · rw [hq, h]; simp
  · simp [hq]
theorem sc_or1 {cv : Int32} {pz : Nat} (hp : pz < 20) (h : scB cv (nI pz) = true) : cv ||| nI 1 <<< (nI pz &&& 31) = cv := by
  rw [sc_bit hp] at h
  refine i32_ext (fun i hi => ?_)
  rw [Int32.toBitVec_or, BitVec.getLsbD_or, gb1 pz hp i hi]
  by_cases hq : i = pz
  · rw [hq, h]; simp
  · simp [hq]
theorem sc_an {cv : Int32} {pz : Nat} (hp : pz < 20) (h : scB cv (nI pz) = true) : cv &&& (nI 1 <<< (nI pz &&& 31) ^^^ (-1)) = cv ^^^ nI 1 <<< (nI pz &&& 31) := by
  rw [sc_bit hp] at h
  refine i32_ext (fun i hi => ?_)
  rw [Int32.toBitVec_and, Int32.toBitVec_xor, Int32.toBitVec_xor, BitVec.getLsbD_and, BitVec.getLsbD_xor, BitVec.getLsbD_xor, gb1 pz hp i hi, gbm i hi]
  by_cases hq : i = pz
  · rw [hq, h]; simp
  · simp [hq]
theorem sc_an0 {cv : Int32} {pz : Nat} (hp : pz < 20) (h : scB cv (nI pz) = false) : cv &&& (nI 1 <<< (nI pz &&& 31) ^^^ (-1)) = cv := by
  rw [sc_bit hp] at h
  refine i32_ext (fun i hi => ?_)
  rw [Int32.toBitVec_and, Int32.toBitVec_xor, BitVec.getLsbD_and, BitVec.getLsbD_xor, gb1 pz hp i hi, gbm i hi]
  by_cases hq : i = pz
  · rw [hq, h]; simp
  · simp [hq]
theorem sc_v {cv pv : Int32} : (cv >>> (pv &&& 31)) &&& nI 1 = bI (scB cv pv) := by
  cases h : scB cv pv with
  | false => exact sc_0.mpr h
  | true => unfold scB at h; exact of_decide_eq_true h
theorem WFp_sc {A : Tn} {pz : Nat} (hW : WFp A) (hp : pz < 20) (hn : scB (tC A 50) (nI pz) = false → spW A (nI pz) = none) : WFp (tnC A 50 (tC A 50 ^^^ nI 1 <<< (nI pz &&& 31))) := by
  obtain ⟨g1, g2, g3, g4⟩ := hW
  refine ⟨g1, g2, g3, ?_⟩
  intro kz hk
  have hk : kz < tN A := hk
  obtain ⟨qz, hq, eq⟩ := (g2 kz hk).1
  show scB (tC A 50 ^^^ nI 1 <<< (nI pz &&& 31)) (tF A kz 1) = false
  have h4 := g4 kz hk
  rw [eq] at h4 ⊢
  rw [sc_xor hp hq, h4]
  by_cases hqp : qz = pz
  · subst hqp
    exact absurd eq (spW_none (hn h4) kz hk)
  · simp [hqp]
section Ops3
variable {E : aE} {d : Nat} {σ : Nat → Nat → Int32} {A B : Tn} {im : Bool}
theorem op_screen {xv yv : Int32} (hI : INV σ A B im) : OK2 σ (Rn E (d + 50) 57 0 [some (.ref 0), some (.int xv), some (.int yv), none] []) (Rn E (d + 50) 139 0 [some (.ref 93), some (.int xv), some (.int yv), none] []) := by
  obtain ⟨⟨hC, hM, hW, hX, hc, hR⟩, _⟩ := id hI
  have h8 := hW.1
  cases ho : rg 0 19 xv with
  | false =>
    refine ok_read (vv := (-1000000001)) hI ?_ ?_
    · simp (disch := omega) only [e57_0, e57_1, e57_2, e57_4, e57_7, e57_10, e57_11, e57_12, e57_13, e57_16, e57_19, e57_21, e57_22, e57_23, e57_24, e57_27, e57_28, e57_31, e57_34, e57_35, e57_36, e57_39, e57_41, e57_42, e57_43, e57_46, e57_49, e57_50, e57_51, e57_52, e57_53, e57_54, e57_55, e57_58, e57_59, e57_60, e57_63, e57_64, e57_67, e57_70, e57_71, e57_72, e57_73, e57_74, e57_77, e57_78, e57_81, e57_84, e57_85, e57_86, e57_87, e57_88, e57_89, e57_90, e57_93, e57_94, ↓reduceIte, inb_n, ix_n, if_true, ne_eq, Nat.reduceEqDiff, not_false_eq_true, clK_s, tl_s, tl_n, clr_i, clr_n, clr_a, nI_add, c_isWithin, tI_0, tI_1, tI_2, tI_3, tI_4, tI_5, tI_6, tI_7, tI_8, tI_19, tI_20, tI_23, tI_24, tI_29, tI_30, tI_48, tI_50, tI_57, tI_60, tI_97, tI_100, tI_122, tI_200, tI_99999, tI_m1, tI_m99999, ho, bI_0, Bool.true_eq_false, Bool.false_eq_true, not_true_eq_false, not_false_eq_true, if_false, reduceCtorEq]
    · simp (disch := omega) only [e139_0, e139_1, e139_4, e139_7, e139_8, e139_9, e139_10, e139_11, e139_14, e139_17, e139_19, e139_20, e139_21, e139_22, e139_25, e139_26, e139_27, e139_30, e139_33, e139_35, e139_36, e139_37, e139_38, e139_41, e139_44, e139_45, e139_48, e139_49, e139_50, e139_51, e139_54, e139_56, e139_57, e139_58, e139_61, e139_62, e139_65, e139_67, e139_68, e139_71, e139_72, e139_75, e139_77, e139_78, e139_79, e139_80, e139_81, e139_82, e139_83, e139_84, ↓reduceIte, gM_0, a_94, inb_n, ix_n, if_true, ne_eq, Nat.reduceEqDiff, not_false_eq_true, vM, clK_s, tl_s, tl_n, clr_i, clr_n, clr_a, nI_add, k_isPlace, ho, bI_0, Bool.true_eq_false, Bool.false_eq_true, not_true_eq_false, not_false_eq_true, if_false, reduceCtorEq]
  | true =>
    obtain ⟨pz, hp, rfl⟩ := rg_e (n := 19) rfl ho
    have hp : pz < 20 := by omega
    cases hb : rg 0 1 yv with
    | false =>
      refine ok_read (vv := (-1000000001)) hI ?_ ?_
      · simp (disch := omega) only [e57_0, e57_1, e57_2, e57_4, e57_7, e57_10, e57_11, e57_12, e57_13, e57_16, e57_19, e57_21, e57_22, e57_23, e57_24, e57_27, e57_28, e57_31, e57_34, e57_35, e57_36, e57_39, e57_41, e57_42, e57_43, e57_46, e57_49, e57_50, e57_51, e57_52, e57_53, e57_54, e57_55, e57_58, e57_59, e57_60, e57_63, e57_64, e57_67, e57_70, e57_71, e57_72, e57_73, e57_74, e57_77, e57_78, e57_81, e57_84, e57_85, e57_86, e57_87, e57_88, e57_89, e57_90, e57_93, e57_94, ↓reduceIte, inb_n, ix_n, if_true, ne_eq, Nat.reduceEqDiff, not_false_eq_true, clK_s, tl_s, tl_n, clr_i, clr_n, clr_a, nI_add, c_isWithin, tI_0, tI_1, tI_2, tI_3, tI_4, tI_5, tI_6, tI_7, tI_8, tI_19, tI_20, tI_23, tI_24, tI_29, tI_30, tI_48, tI_50, tI_57, tI_60, tI_97, tI_100, tI_122, tI_200, tI_99999, tI_m1, tI_m99999, ho, hb, bI_0, Bool.true_eq_false, Bool.false_eq_true, not_true_eq_false, not_false_eq_true, if_false, reduceCtorEq]
      · simp (disch := omega) only [e139_0, e139_1, e139_4, e139_7, e139_8, e139_9, e139_10, e139_11, e139_14, e139_17, e139_19, e139_20, e139_21, e139_22, e139_25, e139_26, e139_27, e139_30, e139_33, e139_35, e139_36, e139_37, e139_38, e139_41, e139_44, e139_45, e139_48, e139_49, e139_50, e139_51, e139_54, e139_56, e139_57, e139_58, e139_61, e139_62, e139_65, e139_67, e139_68, e139_71, e139_72, e139_75, e139_77, e139_78, e139_79, e139_80, e139_81, e139_82, e139_83, e139_84, ↓reduceIte, gM_0, a_94, inb_n, ix_n, if_true, ne_eq, Nat.reduceEqDiff, not_false_eq_true, vM, clK_s, tl_s, tl_n, clr_i, clr_n, clr_a, nI_add, k_isPlace, k_in, rgL_c, tL_0, tL_1, tL_2, tL_3, tL_4, tL_5, tL_6, tL_7, tL_8, tL_19, tL_30, tL_48, tL_50, tL_57, tL_60, tL_97, tL_100, tL_122, tL_200, tL_99999, tL_m1, tL_m99999, ho, hb, bI_0, Bool.true_eq_false, Bool.false_eq_true, not_true_eq_false, not_false_eq_true, if_false, reduceCtorEq]
    | true =>
      obtain ⟨iz, hi, rfl⟩ := rg_e (n := 1) rfl hb
      have qw := hC.wh hp
      have qs := hC.sc
      have hfin : ∀ zv : Int32, (zv = tC A 50 ∨ (zv = tC A 50 ^^^ nI 1 <<< (nI pz &&& 31) ∧ (scB (tC A 50) (nI pz) = false → spW A (nI pz) = none))) → Rn E (d + 50) 57 0 [some (.ref 0), some (.int (nI pz)), some (.int (nI iz)), none] [] (shp, σ) = some (some (.int (bI (scB (tC A 50) (nI pz)))), (shp, su σ 36 11 zv)) → Rn E (d + 50) 139 0 [some (.ref 93), some (.int (nI pz)), some (.int (nI iz)), none] [] (shp, su σ 36 11 zv) = some (some (.int (bI (scB (tC A 50) (nI pz)))), (shp, su (su σ 36 11 zv) 94 50 zv)) → OK2 σ (Rn E (d + 50) 57 0 [some (.ref 0), some (.int (nI pz)), some (.int (nI iz)), none] []) (Rn E (d + 50) 139 0 [some (.ref 93), some (.int (nI pz)), some (.int (nI iz)), none] []) := by
        intro zv hz g1 g2
        have hCn : CR (su σ 36 11 zv) 36 (tnC A 50 zv) := CR_c (i := 50) hC (by omega)
        refine ⟨_, _, _, tnC A 50 zv, B, im, g1, g2, hI.q ((ft_r (by omega) (by omega)).tr fr94) (hCn.ext (fun a h1 h2 _ => su_row (by omega))) ?_ ?_ (WFc_c hc (by omega) (by omega)) rfl⟩
        · rw [su_rf, su_row (by omega)]
          exact MR_c hM h8 (by omega)
        · rcases hz with rfl | ⟨rfl, hz⟩
          · rw [tnC_id]; exact hW
          · exact WFp_sc hW hp hz
      by_cases h1 : iz = 1
      · subst h1
        cases hw : spW A (nI pz) with
        | some kz =>
          have hkn : ¬ oI (some kz) < nI 0 := nI_nn (by have := (spW_lt hw).1; omega)
          refine ok_read (vv := (-1000000002)) hI ?_ ?_
          · simp (disch := omega) only [e57_0, e57_1, e57_2, e57_4, e57_7, e57_10, e57_11, e57_12, e57_13, e57_16, e57_19, e57_21, e57_22, e57_23, e57_24, e57_27, e57_28, e57_31, e57_34, e57_35, e57_36, e57_39, e57_41, e57_42, e57_43, e57_46, e57_49, e57_50, e57_51, e57_52, e57_53, e57_54, e57_55, e57_58, e57_59, e57_60, e57_63, e57_64, e57_67, e57_70, e57_71, e57_72, e57_73, e57_74, e57_77, e57_78, e57_81, e57_84, e57_85, e57_86, e57_87, e57_88, e57_89, e57_90, e57_93, e57_94, ↓reduceIte, inb_n, ix_n, if_true, ne_eq, Nat.reduceEqDiff, not_false_eq_true, clK_s, tl_s, tl_n, clr_i, clr_n, clr_a, nI_add, c_isWithin, tI_0, tI_1, tI_2, tI_3, tI_4, tI_5, tI_6, tI_7, tI_8, tI_19, tI_20, tI_23, tI_24, tI_29, tI_30, tI_48, tI_50, tI_57, tI_60, tI_97, tI_100, tI_122, tI_200, tI_99999, tI_m1, tI_m99999, ho, hb, bI_0, Bool.true_eq_false, Bool.false_eq_true, not_true_eq_false, not_false_eq_true, if_false, reduceCtorEq, gX_2, gT_0 t36, gT_1 t36, gT_2 t36, gT_3 t36, gT_4 t36, gT_5 t36, gT_6 t36, gT_7 t36, gT_8 t36, gT_9 t36, gT_10 t36, gT_11 t36, gT_12 t36, gT_13 t36, gT_14 t36, gT_15 t36, gT_16 t36, gT_17 t36, pT_10 t36, pT_11 t36, pT_12 t36, pT_13 t36, pT_14 t36, pT_15 t36, pT_16 t36, pT_17 t36, aT_1 t36, aT_2 t36, aT_3 t36, aT_4 t36, aT_5 t36, aT_6 t36, aT_7 t36, aT_8 t36, aT_9 t36, sT_1 t36, sT_2 t36, sT_3 t36, sT_4 t36, sT_5 t36, sT_6 t36, sT_7 t36, sT_8 t36, sT_9 t36, vT t36, qw, hw, hkn]
          · simp (disch := omega) only [e139_0, e139_1, e139_4, e139_7, e139_8, e139_9, e139_10, e139_11, e139_14, e139_17, e139_19, e139_20, e139_21, e139_22, e139_25, e139_26, e139_27, e139_30, e139_33, e139_35, e139_36, e139_37, e139_38, e139_41, e139_44, e139_45, e139_48, e139_49, e139_50, e139_51, e139_54, e139_56, e139_57, e139_58, e139_61, e139_62, e139_65, e139_67, e139_68, e139_71, e139_72, e139_75, e139_77, e139_78, e139_79, e139_80, e139_81, e139_82, e139_83, e139_84, ↓reduceIte, gM_0, a_94, inb_n, ix_n, if_true, ne_eq, Nat.reduceEqDiff, not_false_eq_true, vM, clK_s, tl_s, tl_n, clr_i, clr_n, clr_a, nI_add, k_isPlace, k_in, rgL_c, tL_0, tL_1, tL_2, tL_3, tL_4, tL_5, tL_6, tL_7, tL_8, tL_19, tL_30, tL_48, tL_50, tL_57, tL_60, tL_97, tL_100, tL_122, tL_200, tL_99999, tL_m1, tL_m99999, ho, hb, bI_0, Bool.true_eq_false, Bool.false_eq_true, not_true_eq_false, not_false_eq_true, if_false, reduceCtorEq, k_whose hM h8, hw, hkn]
        | none =>
          have hkn : oI none < nI 0 := by decide +kernel
          have z1 : ¬ nI 0 = nI 1 := by decide +kernel
          cases hs : scB (tC A 50) (nI pz) with
          | false =>
            refine hfin (tC A 50 ^^^ nI 1 <<< (nI pz &&& 31)) (Or.inr ⟨rfl, fun _ => hw⟩) ?_ ?_
            · simp (disch := omega) only [e57_0, e57_1, e57_2, e57_4, e57_7, e57_10, e57_11, e57_12, e57_13, e57_16, e57_19, e57_21, e57_22, e57_23, e57_24, e57_27, e57_28, e57_31, e57_34, e57_35, e57_36, e57_39, e57_41, e57_42, e57_43, e57_46, e57_49, e57_50, e57_51, e57_52, e57_53, e57_54, e57_55, e57_58, e57_59, e57_60, e57_63, e57_64, e57_67, e57_70, e57_71, e57_72, e57_73, e57_74, e57_77, e57_78, e57_81, e57_84, e57_85, e57_86, e57_87, e57_88, e57_89, e57_90, e57_93, e57_94, ↓reduceIte, inb_n, ix_n, if_true, ne_eq, Nat.reduceEqDiff, not_false_eq_true, clK_s, tl_s, tl_n, clr_i, clr_n, clr_a, nI_add, c_isWithin, tI_0, tI_1, tI_2, tI_3, tI_4, tI_5, tI_6, tI_7, tI_8, tI_19, tI_20, tI_23, tI_24, tI_29, tI_30, tI_48, tI_50, tI_57, tI_60, tI_97, tI_100, tI_122, tI_200, tI_99999, tI_m1, tI_m99999, ho, hb, bI_0, Bool.true_eq_false, Bool.false_eq_true, not_true_eq_false, not_false_eq_true, if_false, reduceCtorEq, gX_2, gT_0 t36, gT_1 t36, gT_2 t36, gT_3 t36, gT_4 t36, gT_5 t36, gT_6 t36, gT_7 t36, gT_8 t36, gT_9 t36, gT_10 t36, gT_11 t36, gT_12 t36, gT_13 t36, gT_14 t36, gT_15 t36, gT_16 t36, gT_17 t36, pT_10 t36, pT_11 t36, pT_12 t36, pT_13 t36, pT_14 t36, pT_15 t36, pT_16 t36, pT_17 t36, aT_1 t36, aT_2 t36, aT_3 t36, aT_4 t36, aT_5 t36, aT_6 t36, aT_7 t36, aT_8 t36, aT_9 t36, sT_1 t36, sT_2 t36, sT_3 t36, sT_4 t36, sT_5 t36, sT_6 t36, sT_7 t36, sT_8 t36, sT_9 t36, vT t36, qw, hw, hkn, qs, sc_v, sc_or hp hs]
            · have hM1 : MR (su σ 36 11 (tC A 50 ^^^ nI 1 <<< (nI pz &&& 31)) 94) A := by rw [su_row (by omega)]; exact hM
              have m50 := hM1.2.2.2.1
              simp (disch := omega) only [e139_0, e139_1, e139_4, e139_7, e139_8, e139_9, e139_10, e139_11, e139_14, e139_17, e139_19, e139_20, e139_21, e139_22, e139_25, e139_26, e139_27, e139_30, e139_33, e139_35, e139_36, e139_37, e139_38, e139_41, e139_44, e139_45, e139_48, e139_49, e139_50, e139_51, e139_54, e139_56, e139_57, e139_58, e139_61, e139_62, e139_65, e139_67, e139_68, e139_71, e139_72, e139_75, e139_77, e139_78, e139_79, e139_80, e139_81, e139_82, e139_83, e139_84, ↓reduceIte, gM_0, a_94, inb_n, ix_n, if_true, ne_eq, Nat.reduceEqDiff, not_false_eq_true, vM, clK_s, tl_s, tl_n, clr_i, clr_n, clr_a, nI_add, k_isPlace, k_in, rgL_c, tL_0, tL_1, tL_2, tL_3, tL_4, tL_5, tL_6, tL_7, tL_8, tL_19, tL_30, tL_48, tL_50, tL_57, tL_60, tL_97, tL_100, tL_122, tL_200, tL_99999, tL_m1, tL_m99999, ho, hb, bI_0, Bool.true_eq_false, Bool.false_eq_true, not_true_eq_false, not_false_eq_true, if_false, reduceCtorEq, k_whose hM1 h8, hw, hkn, k_isScreen hM1, hs, z1, m50, s_94, bI_f]
          | true =>
            refine hfin (tC A 50) (Or.inl rfl) ?_ ?_
            · simp (disch := omega) only [e57_0, e57_1, e57_2, e57_4, e57_7, e57_10, e57_11, e57_12, e57_13, e57_16, e57_19, e57_21, e57_22, e57_23, e57_24, e57_27, e57_28, e57_31, e57_34, e57_35, e57_36, e57_39, e57_41, e57_42, e57_43, e57_46, e57_49, e57_50, e57_51, e57_52, e57_53, e57_54, e57_55, e57_58, e57_59, e57_60, e57_63, e57_64, e57_67, e57_70, e57_71, e57_72, e57_73, e57_74, e57_77, e57_78, e57_81, e57_84, e57_85, e57_86, e57_87, e57_88, e57_89, e57_90, e57_93, e57_94, ↓reduceIte, inb_n, ix_n, if_true, ne_eq, Nat.reduceEqDiff, not_false_eq_true, clK_s, tl_s, tl_n, clr_i, clr_n, clr_a, nI_add, c_isWithin, tI_0, tI_1, tI_2, tI_3, tI_4, tI_5, tI_6, tI_7, tI_8, tI_19, tI_20, tI_23, tI_24, tI_29, tI_30, tI_48, tI_50, tI_57, tI_60, tI_97, tI_100, tI_122, tI_200, tI_99999, tI_m1, tI_m99999, ho, hb, bI_0, Bool.true_eq_false, Bool.false_eq_true, not_true_eq_false, not_false_eq_true, if_false, reduceCtorEq, gX_2, gT_0 t36, gT_1 t36, gT_2 t36, gT_3 t36, gT_4 t36, gT_5 t36, gT_6 t36, gT_7 t36, gT_8 t36, gT_9 t36, gT_10 t36, gT_11 t36, gT_12 t36, gT_13 t36, gT_14 t36, gT_15 t36, gT_16 t36, gT_17 t36, pT_10 t36, pT_11 t36, pT_12 t36, pT_13 t36, pT_14 t36, pT_15 t36, pT_16 t36, pT_17 t36, aT_1 t36, aT_2 t36, aT_3 t36, aT_4 t36, aT_5 t36, aT_6 t36, aT_7 t36, aT_8 t36, aT_9 t36, sT_1 t36, sT_2 t36, sT_3 t36, sT_4 t36, sT_5 t36, sT_6 t36, sT_7 t36, sT_8 t36, sT_9 t36, vT t36, qw, hw, hkn, qs, sc_v, sc_or1 hp hs]
            · have hM1 : MR (su σ 36 11 (tC A 50) 94) A := by rw [su_row (by omega)]; exact hM
              have m50 := hM1.2.2.2.1
              simp (disch := omega) only [e139_0, e139_1, e139_4, e139_7, e139_8, e139_9, e139_10, e139_11, e139_14, e139_17, e139_19, e139_20, e139_21, e139_22, e139_25, e139_26, e139_27, e139_30, e139_33, e139_35, e139_36, e139_37, e139_38, e139_41, e139_44, e139_45, e139_48, e139_49, e139_50, e139_51, e139_54, e139_56, e139_57, e139_58, e139_61, e139_62, e139_65, e139_67, e139_68, e139_71, e139_72, e139_75, e139_77, e139_78, e139_79, e139_80, e139_81, e139_82, e139_83, e139_84, ↓reduceIte, gM_0, a_94, inb_n, ix_n, if_true, ne_eq, Nat.reduceEqDiff, not_false_eq_true, vM, clK_s, tl_s, tl_n, clr_i, clr_n, clr_a, nI_add, k_isPlace, k_in, rgL_c, tL_0, tL_1, tL_2, tL_3, tL_4, tL_5, tL_6, tL_7, tL_8, tL_19, tL_30, tL_48, tL_50, tL_57, tL_60, tL_97, tL_100, tL_122, tL_200, tL_99999, tL_m1, tL_m99999, ho, hb, bI_0, Bool.true_eq_false, Bool.false_eq_true, not_true_eq_false, not_false_eq_true, if_false, reduceCtorEq, k_whose hM1 h8, hw, hkn, k_isScreen hM1, hs, m50, s_94, bI_t, n10]
      · have h0 : iz = 0 := by omega
        subst h0
        have z1 : ¬ nI 0 = nI 1 := by decide +kernel
        have z2 : ¬ nI 1 = nI 0 := by decide +kernel
        cases hs : scB (tC A 50) (nI pz) with
        | true =>
          refine hfin (tC A 50 ^^^ nI 1 <<< (nI pz &&& 31)) (Or.inr ⟨rfl, fun z => by rw [hs] at z; cases z⟩) ?_ ?_
          · simp (disch := omega) only [e57_0, e57_1, e57_2, e57_4, e57_7, e57_10, e57_11, e57_12, e57_13, e57_16, e57_19, e57_21, e57_22, e57_23, e57_24, e57_27, e57_28, e57_31, e57_34, e57_35, e57_36, e57_39, e57_41, e57_42, e57_43, e57_46, e57_49, e57_50, e57_51, e57_52, e57_53, e57_54, e57_55, e57_58, e57_59, e57_60, e57_63, e57_64, e57_67, e57_70, e57_71, e57_72, e57_73, e57_74, e57_77, e57_78, e57_81, e57_84, e57_85, e57_86, e57_87, e57_88, e57_89, e57_90, e57_93, e57_94, ↓reduceIte, inb_n, ix_n, if_true, ne_eq, Nat.reduceEqDiff, not_false_eq_true, clK_s, tl_s, tl_n, clr_i, clr_n, clr_a, nI_add, c_isWithin, tI_0, tI_1, tI_2, tI_3, tI_4, tI_5, tI_6, tI_7, tI_8, tI_19, tI_20, tI_23, tI_24, tI_29, tI_30, tI_48, tI_50, tI_57, tI_60, tI_97, tI_100, tI_122, tI_200, tI_99999, tI_m1, tI_m99999, ho, hb, bI_0, Bool.true_eq_false, Bool.false_eq_true, not_true_eq_false, not_false_eq_true, if_false, reduceCtorEq, gX_2, gT_0 t36, gT_1 t36, gT_2 t36, gT_3 t36, gT_4 t36, gT_5 t36, gT_6 t36, gT_7 t36, gT_8 t36, gT_9 t36, gT_10 t36, gT_11 t36, gT_12 t36, gT_13 t36, gT_14 t36, gT_15 t36, gT_16 t36, gT_17 t36, pT_10 t36, pT_11 t36, pT_12 t36, pT_13 t36, pT_14 t36, pT_15 t36, pT_16 t36, pT_17 t36, aT_1 t36, aT_2 t36, aT_3 t36, aT_4 t36, aT_5 t36, aT_6 t36, aT_7 t36, aT_8 t36, aT_9 t36, sT_1 t36, sT_2 t36, sT_3 t36, sT_4 t36, sT_5 t36, sT_6 t36, sT_7 t36, sT_8 t36, sT_9 t36, vT t36, z1, qs, sc_v, sc_an hp hs]
          · have hM1 : MR (su σ 36 11 (tC A 50 ^^^ nI 1 <<< (nI pz &&& 31)) 94) A := by rw [su_row (by omega)]; exact hM
            have m50 := hM1.2.2.2.1
            simp (disch := omega) only [e139_0, e139_1, e139_4, e139_7, e139_8, e139_9, e139_10, e139_11, e139_14, e139_17, e139_19, e139_20, e139_21, e139_22, e139_25, e139_26, e139_27, e139_30, e139_33, e139_35, e139_36, e139_37, e139_38, e139_41, e139_44, e139_45, e139_48, e139_49, e139_50, e139_51, e139_54, e139_56, e139_57, e139_58, e139_61, e139_62, e139_65, e139_67, e139_68, e139_71, e139_72, e139_75, e139_77, e139_78, e139_79, e139_80, e139_81, e139_82, e139_83, e139_84, ↓reduceIte, gM_0, a_94, inb_n, ix_n, if_true, ne_eq, Nat.reduceEqDiff, not_false_eq_true, vM, clK_s, tl_s, tl_n, clr_i, clr_n, clr_a, nI_add, k_isPlace, k_in, rgL_c, tL_0, tL_1, tL_2, tL_3, tL_4, tL_5, tL_6, tL_7, tL_8, tL_19, tL_30, tL_48, tL_50, tL_57, tL_60, tL_97, tL_100, tL_122, tL_200, tL_99999, tL_m1, tL_m99999, ho, hb, bI_0, Bool.true_eq_false, Bool.false_eq_true, not_true_eq_false, not_false_eq_true, if_false, reduceCtorEq, z1, z2, k_isScreen hM1, hs, m50, s_94, bI_t]
        | false =>
          refine hfin (tC A 50) (Or.inl rfl) ?_ ?_
          · simp (disch := omega) only [e57_0, e57_1, e57_2, e57_4, e57_7, e57_10, e57_11, e57_12, e57_13, e57_16, e57_19, e57_21, e57_22, e57_23, e57_24, e57_27, e57_28, e57_31, e57_34, e57_35, e57_36, e57_39, e57_41, e57_42, e57_43, e57_46, e57_49, e57_50, e57_51, e57_52, e57_53, e57_54, e57_55, e57_58, e57_59, e57_60, e57_63, e57_64, e57_67, e57_70, e57_71, e57_72, e57_73, e57_74, e57_77, e57_78, e57_81, e57_84, e57_85, e57_86, e57_87, e57_88, e57_89, e57_90, e57_93, e57_94, ↓reduceIte, inb_n, ix_n, if_true, ne_eq, Nat.reduceEqDiff, not_false_eq_true, clK_s, tl_s, tl_n, clr_i, clr_n, clr_a, nI_add, c_isWithin, tI_0, tI_1, tI_2, tI_3, tI_4, tI_5, tI_6, tI_7, tI_8, tI_19, tI_20, tI_23, tI_24, tI_29, tI_30, tI_48, tI_50, tI_57, tI_60, tI_97, tI_100, tI_122, tI_200, tI_99999, tI_m1, tI_m99999, ho, hb, bI_0, Bool.true_eq_false, Bool.false_eq_true, not_true_eq_false, not_false_eq_true, if_false, reduceCtorEq, gX_2, gT_0 t36, gT_1 t36, gT_2 t36, gT_3 t36, gT_4 t36, gT_5 t36, gT_6 t36, gT_7 t36, gT_8 t36, gT_9 t36, gT_10 t36, gT_11 t36, gT_12 t36, gT_13 t36, gT_14 t36, gT_15 t36, gT_16 t36, gT_17 t36, pT_10 t36, pT_11 t36, pT_12 t36, pT_13 t36, pT_14 t36, pT_15 t36, pT_16 t36, pT_17 t36, aT_1 t36, aT_2 t36, aT_3 t36, aT_4 t36, aT_5 t36, aT_6 t36, aT_7 t36, aT_8 t36, aT_9 t36, sT_1 t36, sT_2 t36, sT_3 t36, sT_4 t36, sT_5 t36, sT_6 t36, sT_7 t36, sT_8 t36, sT_9 t36, vT t36, z1, qs, sc_v, sc_an0 hp hs]
          · have hM1 : MR (su σ 36 11 (tC A 50) 94) A := by rw [su_row (by omega)]; exact hM
            have m50 := hM1.2.2.2.1
            simp (disch := omega) only [e139_0, e139_1, e139_4, e139_7, e139_8, e139_9, e139_10, e139_11, e139_14, e139_17, e139_19, e139_20, e139_21, e139_22, e139_25, e139_26, e139_27, e139_30, e139_33, e139_35, e139_36, e139_37, e139_38, e139_41, e139_44, e139_45, e139_48, e139_49, e139_50, e139_51, e139_54, e139_56, e139_57, e139_58, e139_61, e139_62, e139_65, e139_67, e139_68, e139_71, e139_72, e139_75, e139_77, e139_78, e139_79, e139_80, e139_81, e139_82, e139_83, e139_84, ↓reduceIte, gM_0, a_94, inb_n, ix_n, if_true, ne_eq, Nat.reduceEqDiff, not_false_eq_true, vM, clK_s, tl_s, tl_n, clr_i, clr_n, clr_a, nI_add, k_isPlace, k_in, rgL_c, tL_0, tL_1, tL_2, tL_3, tL_4, tL_5, tL_6, tL_7, tL_8, tL_19, tL_30, tL_48, tL_50, tL_57, tL_60, tL_97, tL_100, tL_122, tL_200, tL_99999, tL_m1, tL_m99999, ho, hb, bI_0, Bool.true_eq_false, Bool.false_eq_true, not_true_eq_false, not_false_eq_true, if_false, reduceCtorEq, z1, k_isScreen hM1, hs, m50, s_94, bI_f]
theorem op_looks {xv : Int32} (hI : INV σ A B im) : OK2 σ (Rn E (d + 50) 62 0 [some (.ref 0), some (.int xv), none] []) (Rn E (d + 50) 144 0 [some (.ref 93), some (.int xv)] []) := by
  obtain ⟨⟨hC, hM, hW, hX, hc, hR⟩, _⟩ := id hI
  have h8 := hW.1
  cases ho : hasB A xv with
  | false =>
    refine ok_read (vv := (-1000000001)) hI ?_ ?_
    · simp (disch := omega) only [e62_0, e62_1, e62_4, e62_5, e62_8, e62_11, e62_13, e62_14, e62_15, e62_18, e62_19, e62_22, e62_23, e62_24, e62_27, e62_28, e62_31, e62_33, ↓reduceIte, inb_n, ix_n, if_true, ne_eq, Nat.reduceEqDiff, not_false_eq_true, clK_s, tl_s, tl_n, clr_i, clr_n, clr_a, nI_add, gX_2, gT_0 t36, gT_1 t36, gT_2 t36, gT_3 t36, gT_4 t36, gT_5 t36, gT_6 t36, gT_7 t36, gT_8 t36, gT_9 t36, gT_10 t36, gT_11 t36, gT_12 t36, gT_13 t36, gT_14 t36, gT_15 t36, gT_16 t36, gT_17 t36, pT_10 t36, pT_11 t36, pT_12 t36, pT_13 t36, pT_14 t36, pT_15 t36, pT_16 t36, pT_17 t36, aT_1 t36, aT_2 t36, aT_3 t36, aT_4 t36, aT_5 t36, aT_6 t36, aT_7 t36, aT_8 t36, aT_9 t36, sT_1 t36, sT_2 t36, sT_3 t36, sT_4 t36, sT_5 t36, sT_6 t36, sT_7 t36, sT_8 t36, sT_9 t36, vT t36, c_has t36 hC h8, ho, bI_0, Bool.true_eq_false, Bool.false_eq_true, not_true_eq_false, not_false_eq_true, if_false, reduceCtorEq]
    · simp (disch := omega) only [e144_0, e144_1, e144_2, e144_5, e144_8, e144_9, e144_10, e144_13, e144_16, e144_19, e144_21, ↓reduceIte, gM_0, a_94, inb_n, ix_n, if_true, ne_eq, Nat.reduceEqDiff, not_false_eq_true, vM, clK_s, tl_s, tl_n, clr_i, clr_n, clr_a, nI_add, k_isOne hM h8, ho, bI_0, Bool.true_eq_false, Bool.false_eq_true, not_true_eq_false, not_false_eq_true, if_false, reduceCtorEq]
  | true =>
    obtain ⟨kz, hk, rfl⟩ := hasB_ex ho
    obtain ⟨σ1, a1, a2⟩ := c_lookOf (E := E) (d := d + 46) t36 hC hX hR hW hk
    have e94 : σ1 94 = σ 94 := a2 94 (by decide)
    have hM1 : MR (σ1 94) A := by rw [e94]; exact hM
    obtain ⟨σ2, b1, b2⟩ := k_looksAt (E := E) (d := d + 45) hM1 hW hX hk
    have hM2 : MR (σ2 94) A := by rw [b2 94 (by decide)]; exact hM1
    refine ⟨oN (oI (spLk A kz)), σ1, σ2, A, B, im, ?_, ?_, hI.same ((QT.f3 a2).tr (QT.fr (b2.mono (by decide)))) ((hC.of3 t36 a2).ext (fun a h1 h2 _ => b2 a (by simp; omega))) hM2⟩
    · simp (disch := omega) only [e62_0, e62_1, e62_4, e62_5, e62_8, e62_11, e62_13, e62_14, e62_15, e62_18, e62_19, e62_22, e62_23, e62_24, e62_27, e62_28, e62_31, e62_33, ↓reduceIte, inb_n, ix_n, if_true, ne_eq, Nat.reduceEqDiff, not_false_eq_true, clK_s, tl_s, tl_n, clr_i, clr_n, clr_a, nI_add, gX_2, gT_0 t36, gT_1 t36, gT_2 t36, gT_3 t36, gT_4 t36, gT_5 t36, gT_6 t36, gT_7 t36, gT_8 t36, gT_9 t36, gT_10 t36, gT_11 t36, gT_12 t36, gT_13 t36, gT_14 t36, gT_15 t36, gT_16 t36, gT_17 t36, pT_10 t36, pT_11 t36, pT_12 t36, pT_13 t36, pT_14 t36, pT_15 t36, pT_16 t36, pT_17 t36, aT_1 t36, aT_2 t36, aT_3 t36, aT_4 t36, aT_5 t36, aT_6 t36, aT_7 t36, aT_8 t36, aT_9 t36, sT_1 t36, sT_2 t36, sT_3 t36, sT_4 t36, sT_5 t36, sT_6 t36, sT_7 t36, sT_8 t36, sT_9 t36, vT t36, c_has t36 hC h8, ho, bI_0, Bool.true_eq_false, Bool.false_eq_true, not_true_eq_false, not_false_eq_true, if_false, reduceCtorEq, a1, oI_neg (spLk_31 hW)]
      rw [oI_lt (spLk_31 hW)]
      cases spLk A kz with
      | none => simp [oM]
      | some jz => simp [oI, oM]
    · simp (disch := omega) only [e144_0, e144_1, e144_2, e144_5, e144_8, e144_9, e144_10, e144_13, e144_16, e144_19, e144_21, ↓reduceIte, gM_0, a_94, inb_n, ix_n, if_true, ne_eq, Nat.reduceEqDiff, not_false_eq_true, vM, clK_s, tl_s, tl_n, clr_i, clr_n, clr_a, nI_add, k_isOne hM1 h8, ho, bI_0, Bool.true_eq_false, Bool.false_eq_true, not_true_eq_false, not_false_eq_true, if_false, reduceCtorEq, b1, k_orNone]
theorem op_eyes {xv : Int32} (hI : INV σ A B im) : OK2 σ (Rn E (d + 50) 63 0 [some (.ref 0), some (.int xv)] []) (Rn E (d + 50) 145 0 [some (.ref 93), some (.int xv)] []) := by
  obtain ⟨⟨hC, hM, hW, hX, hc, hR⟩, _⟩ := id hI
  have h8 := hW.1
  cases ho : hasB A xv with
  | false =>
    refine ok_read (vv := (-1000000001)) hI ?_ ?_
    · simp (disch := omega) only [e63_0, e63_1, e63_4, e63_5, e63_8, e63_11, e63_13, e63_14, e63_15, e63_18, e63_21, e63_22, e63_25, e63_28, e63_29, e63_30, ↓reduceIte, inb_n, ix_n, if_true, ne_eq, Nat.reduceEqDiff, not_false_eq_true, clK_s, tl_s, tl_n, clr_i, clr_n, clr_a, nI_add, gX_2, gT_0 t36, gT_1 t36, gT_2 t36, gT_3 t36, gT_4 t36, gT_5 t36, gT_6 t36, gT_7 t36, gT_8 t36, gT_9 t36, gT_10 t36, gT_11 t36, gT_12 t36, gT_13 t36, gT_14 t36, gT_15 t36, gT_16 t36, gT_17 t36, pT_10 t36, pT_11 t36, pT_12 t36, pT_13 t36, pT_14 t36, pT_15 t36, pT_16 t36, pT_17 t36, aT_1 t36, aT_2 t36, aT_3 t36, aT_4 t36, aT_5 t36, aT_6 t36, aT_7 t36, aT_8 t36, aT_9 t36, sT_1 t36, sT_2 t36, sT_3 t36, sT_4 t36, sT_5 t36, sT_6 t36, sT_7 t36, sT_8 t36, sT_9 t36, vT t36, c_has t36 hC h8, ho, bI_0, Bool.true_eq_false, Bool.false_eq_true, not_true_eq_false, not_false_eq_true, if_false, reduceCtorEq]
    · simp (disch := omega) only [e145_0, e145_1, e145_2, e145_5, e145_8, e145_9, e145_10, e145_13, e145_16, e145_18, ↓reduceIte, gM_0, a_94, inb_n, ix_n, if_true, ne_eq, Nat.reduceEqDiff, not_false_eq_true, vM, clK_s, tl_s, tl_n, clr_i, clr_n, clr_a, nI_add, k_isOne hM h8, ho, bI_0, Bool.true_eq_false, Bool.false_eq_true, not_true_eq_false, not_false_eq_true, if_false, reduceCtorEq]
  | true =>
    obtain ⟨kz, hk, rfl⟩ := hasB_ex ho
    obtain ⟨σ1, a1, a2, a3, a4⟩ := c_lookAll (E := E) (d := d + 45) t36 hC hX hR hW
    have e94 : σ1 94 = σ 94 := a2 94 (by omega) (by omega)
    have hM1 : MR (σ1 94) A := by rw [e94]; exact hM
    obtain ⟨σ2, b1, b2⟩ := k_eyesOf (E := E) (d := d + 44) hM1 hW hX hk
    have hM2 : MR (σ2 94) A := by rw [b2 94 (by decide)]; exact hM1
    have e6 := a4 kz hk
    refine ⟨spEy A kz, σ1, σ2, A, B, im, ?_, ?_, hI.same ((QT.f36 a2).tr (QT.fr (b2.mono (by decide)))) (a3.ext (fun a h1 h2 _ => b2 a (by simp; omega))) hM2⟩
    · simp (disch := omega) only [e63_0, e63_1, e63_4, e63_5, e63_8, e63_11, e63_13, e63_14, e63_15, e63_18, e63_21, e63_22, e63_25, e63_28, e63_29, e63_30, ↓reduceIte, inb_n, ix_n, if_true, ne_eq, Nat.reduceEqDiff, not_false_eq_true, clK_s, tl_s, tl_n, clr_i, clr_n, clr_a, nI_add, gX_2, gT_0 t36, gT_1 t36, gT_2 t36, gT_3 t36, gT_4 t36, gT_5 t36, gT_6 t36, gT_7 t36, gT_8 t36, gT_9 t36, gT_10 t36, gT_11 t36, gT_12 t36, gT_13 t36, gT_14 t36, gT_15 t36, gT_16 t36, gT_17 t36, pT_10 t36, pT_11 t36, pT_12 t36, pT_13 t36, pT_14 t36, pT_15 t36, pT_16 t36, pT_17 t36, aT_1 t36, aT_2 t36, aT_3 t36, aT_4 t36, aT_5 t36, aT_6 t36, aT_7 t36, aT_8 t36, aT_9 t36, sT_1 t36, sT_2 t36, sT_3 t36, sT_4 t36, sT_5 t36, sT_6 t36, sT_7 t36, sT_8 t36, sT_9 t36, vT t36, c_has t36 hC h8, ho, bI_0, Bool.true_eq_false, Bool.false_eq_true, not_true_eq_false, not_false_eq_true, if_false, reduceCtorEq, a1, e6]
    · simp (disch := omega) only [e145_0, e145_1, e145_2, e145_5, e145_8, e145_9, e145_10, e145_13, e145_16, e145_18, ↓reduceIte, gM_0, a_94, inb_n, ix_n, if_true, ne_eq, Nat.reduceEqDiff, not_false_eq_true, vM, clK_s, tl_s, tl_n, clr_i, clr_n, clr_a, nI_add, k_isOne hM1 h8, ho, bI_0, Bool.true_eq_false, Bool.false_eq_true, not_true_eq_false, not_false_eq_true, if_false, reduceCtorEq, b1]
theorem k_sees_l {oz : Nat} (hM : MR (σ 94) A) (hW : WFp A) (ho : oz < tN A) : ∀ r kz (av : Int32), kz + r = tN A →
    Rn E (d + 4) 146 15 [some (.ref 93), some (.int (nI oz)), some (.int av), some (.int (nI kz))] [] (shp, σ) = some (some (.int (mkF (fun kz => spSee A oz kz) r kz av)), (shp, σ)) := by
  have h8 := hW.1
  have e0 := hM.1
  intro r
  induction r with
  | zero =>
    intro kz av hk
    have h1 : tN A ≤ kz := by omega
    simp (disch := omega) only [e146_0, e146_1, e146_2, e146_5, e146_8, e146_10, e146_11, e146_12, e146_13, e146_14, e146_15, e146_16, e146_17, e146_20, e146_21, e146_22, e146_25, e146_26, e146_27, e146_28, e146_29, e146_32, e146_35, e146_36, e146_37, e146_38, e146_41, e146_42, e146_43, e146_44, e146_47, e146_50, e146_51, ↓reduceIte, gM_0, a_94, inb_n, ix_n, if_true, ne_eq, Nat.reduceEqDiff, not_false_eq_true, vM, clK_s, tl_s, tl_n, clr_i, clr_n, clr_a, nI_add, e0, nI_leI, h1, mkF]
  | succ r ih =>
    intro kz av hk
    have h1 : ¬ tN A ≤ kz := by omega
    rw [e146_15]
    simp (disch := omega) only [e146_16, e146_17, e146_20, e146_21, e146_22, e146_25, e146_26, e146_27, e146_28, e146_29, e146_32, ↓reduceIte, gM_0, a_94, inb_n, ix_n, if_true, ne_eq, Nat.reduceEqDiff, not_false_eq_true, vM, clK_s, tl_s, tl_n, clr_i, clr_n, clr_a, nI_add, e0, nI_leI, h1, k_doesSee hM hW ho (show kz < tN A by omega), bI_0]
    unfold mkF
    cases hs : spSee A oz kz with
    | true =>
      simp only [Bool.true_eq_false, if_false, if_true, e146_35, e146_36, e146_37, e146_38, e146_41, e146_42, e146_43, e146_44, e146_47, ↓reduceIte, gM_0, a_94, inb_n, ix_n, if_true, ne_eq, Nat.reduceEqDiff, not_false_eq_true, vM, clK_s, tl_s, tl_n, clr_i, clr_n, clr_a, nI_add]
      exact ih (kz + 1) _ (by omega)
    | false =>
      simp only [Bool.false_eq_true, if_false, if_true, e146_35, e146_36, e146_37, e146_38, e146_41, e146_42, e146_43, e146_44, e146_47, ↓reduceIte, gM_0, a_94, inb_n, ix_n, if_true, ne_eq, Nat.reduceEqDiff, not_false_eq_true, vM, clK_s, tl_s, tl_n, clr_i, clr_n, clr_a, nI_add, or_0]
      exact ih (kz + 1) _ (by omega)
theorem op_sees {xv : Int32} (hI : INV σ A B im) : OK2 σ (Rn E (d + 50) 64 0 [some (.ref 0), some (.int xv)] []) (Rn E (d + 50) 146 0 [some (.ref 93), some (.int xv), none, none] []) := by
  obtain ⟨⟨hC, hM, hW, hX, hc, hR⟩, _⟩ := id hI
  have h8 := hW.1
  cases ho : hasB A xv with
  | false =>
    refine ok_read (vv := (-1000000001)) hI ?_ ?_
    · simp (disch := omega) only [e64_0, e64_1, e64_4, e64_5, e64_8, e64_11, e64_12, e64_15, e64_16, e64_19, e64_22, e64_24, ↓reduceIte, inb_n, ix_n, if_true, ne_eq, Nat.reduceEqDiff, not_false_eq_true, clK_s, tl_s, tl_n, clr_i, clr_n, clr_a, nI_add, gX_2, gT_0 t36, gT_1 t36, gT_2 t36, gT_3 t36, gT_4 t36, gT_5 t36, gT_6 t36, gT_7 t36, gT_8 t36, gT_9 t36, gT_10 t36, gT_11 t36, gT_12 t36, gT_13 t36, gT_14 t36, gT_15 t36, gT_16 t36, gT_17 t36, pT_10 t36, pT_11 t36, pT_12 t36, pT_13 t36, pT_14 t36, pT_15 t36, pT_16 t36, pT_17 t36, aT_1 t36, aT_2 t36, aT_3 t36, aT_4 t36, aT_5 t36, aT_6 t36, aT_7 t36, aT_8 t36, aT_9 t36, sT_1 t36, sT_2 t36, sT_3 t36, sT_4 t36, sT_5 t36, sT_6 t36, sT_7 t36, sT_8 t36, sT_9 t36, vT t36, c_has t36 hC h8, ho, bI_0, Bool.true_eq_false, Bool.false_eq_true, not_true_eq_false, not_false_eq_true, if_false, reduceCtorEq]
    · simp (disch := omega) only [e146_0, e146_1, e146_2, e146_5, e146_8, e146_10, ↓reduceIte, gM_0, a_94, inb_n, ix_n, if_true, ne_eq, Nat.reduceEqDiff, not_false_eq_true, vM, clK_s, tl_s, tl_n, clr_i, clr_n, clr_a, nI_add, k_isOne hM h8, ho, bI_0, Bool.true_eq_false, Bool.false_eq_true, not_true_eq_false, not_false_eq_true, if_false, reduceCtorEq]
  | true =>
    obtain ⟨kz, hk, rfl⟩ := hasB_ex ho
    refine ok_read (vv := spSs A kz) hI ?_ ?_
    · simp (disch := omega) only [e64_0, e64_1, e64_4, e64_5, e64_8, e64_11, e64_12, e64_15, e64_16, e64_19, e64_22, e64_24, ↓reduceIte, inb_n, ix_n, if_true, ne_eq, Nat.reduceEqDiff, not_false_eq_true, clK_s, tl_s, tl_n, clr_i, clr_n, clr_a, nI_add, gX_2, gT_0 t36, gT_1 t36, gT_2 t36, gT_3 t36, gT_4 t36, gT_5 t36, gT_6 t36, gT_7 t36, gT_8 t36, gT_9 t36, gT_10 t36, gT_11 t36, gT_12 t36, gT_13 t36, gT_14 t36, gT_15 t36, gT_16 t36, gT_17 t36, pT_10 t36, pT_11 t36, pT_12 t36, pT_13 t36, pT_14 t36, pT_15 t36, pT_16 t36, pT_17 t36, aT_1 t36, aT_2 t36, aT_3 t36, aT_4 t36, aT_5 t36, aT_6 t36, aT_7 t36, aT_8 t36, aT_9 t36, sT_1 t36, sT_2 t36, sT_3 t36, sT_4 t36, sT_5 t36, sT_6 t36, sT_7 t36, sT_8 t36, sT_9 t36, vT t36, c_has t36 hC h8, ho, bI_0, Bool.true_eq_false, Bool.false_eq_true, not_true_eq_false, not_false_eq_true, if_false, reduceCtorEq, c_seenBy t36 hC hW hk]
    · simp (disch := omega) only [e146_0, e146_1, e146_2, e146_5, e146_8, e146_10, e146_11, e146_12, e146_13, e146_14, ↓reduceIte, gM_0, a_94, inb_n, ix_n, if_true, ne_eq, Nat.reduceEqDiff, not_false_eq_true, vM, clK_s, tl_s, tl_n, clr_i, clr_n, clr_a, nI_add, k_isOne hM h8, ho, bI_0, Bool.true_eq_false, Bool.false_eq_true, not_true_eq_false, not_false_eq_true, if_false, reduceCtorEq]
      exact k_sees_l (d := d + 46) hM hW hk (tN A) 0 (nI 0) (by omega)
theorem k_manyE {S : aSt} {oz : Nat} (hW : WFp A) : Rn E d 133 0 [some (.int (spEy A oz)), none, none] [] S = some (some (.int (nI (spCn A oz))), S) := by
  obtain ⟨bz, h1, h2, h3⟩ := mk_nat (pq := fun kz => decide (spLk A kz = some oz)) hW.1
  have h2 : spEy A oz = nI bz := h2
  have h3 : popc bz = spCn A oz := h3
  rw [h2, k_many h1, h3]
theorem op_told {xv yv : Int32} (hI : INV σ A B im) : OK2 σ (Rn E (d + 50) 52 0 [some (.ref 0), some (.int xv), some (.int yv)] []) (Rn E (d + 50) 134 0 [some (.ref 93), some (.int xv), some (.int yv)] []) := by
  obtain ⟨⟨hC, hM, hW, hX, hc, hR⟩, _⟩ := id hI
  have h8 := hW.1
  cases ho : hasB A xv with
  | false =>
    refine ok_read (vv := (-1000000001)) hI ?_ ?_
    · simp (disch := omega) only [e52_0, e52_1, e52_4, e52_5, e52_8, e52_11, e52_13, ↓reduceIte, inb_n, ix_n, if_true, ne_eq, Nat.reduceEqDiff, not_false_eq_true, clK_s, tl_s, tl_n, clr_i, clr_n, clr_a, nI_add, gX_2, gT_0 t36, gT_1 t36, gT_2 t36, gT_3 t36, gT_4 t36, gT_5 t36, gT_6 t36, gT_7 t36, gT_8 t36, gT_9 t36, gT_10 t36, gT_11 t36, gT_12 t36, gT_13 t36, gT_14 t36, gT_15 t36, gT_16 t36, gT_17 t36, pT_10 t36, pT_11 t36, pT_12 t36, pT_13 t36, pT_14 t36, pT_15 t36, pT_16 t36, pT_17 t36, aT_1 t36, aT_2 t36, aT_3 t36, aT_4 t36, aT_5 t36, aT_6 t36, aT_7 t36, aT_8 t36, aT_9 t36, sT_1 t36, sT_2 t36, sT_3 t36, sT_4 t36, sT_5 t36, sT_6 t36, sT_7 t36, sT_8 t36, sT_9 t36, vT t36, c_has t36 hC h8, ho, bI_0, Bool.true_eq_false, Bool.false_eq_true, not_true_eq_false, not_false_eq_true, if_false, reduceCtorEq]
    · simp (disch := omega) only [e134_0, e134_1, e134_2, e134_5, e134_8, e134_9, e134_10, e134_11, e134_14, e134_17, e134_20, e134_22, ↓reduceIte, gM_0, a_94, inb_n, ix_n, if_true, ne_eq, Nat.reduceEqDiff, not_false_eq_true, vM, clK_s, tl_s, tl_n, clr_i, clr_n, clr_a, nI_add, k_isOne hM h8, ho, bI_0, Bool.true_eq_false, Bool.false_eq_true, not_true_eq_false, not_false_eq_true, if_false, reduceCtorEq]
  | true =>
    obtain ⟨kz, hk, rfl⟩ := hasB_ex ho
    cases hb : rg 0 6 yv with
    | false =>
      have hn := rg_no hb
      refine ok_read (vv := (-1000000001)) hI ?_ ?_
      · simp (disch := omega) only [e52_0, e52_1, e52_4, e52_5, e52_8, e52_11, e52_13, e52_14, ↓reduceIte, inb_n, ix_n, if_true, ne_eq, Nat.reduceEqDiff, not_false_eq_true, clK_s, tl_s, tl_n, clr_i, clr_n, clr_a, nI_add, gX_2, gT_0 t36, gT_1 t36, gT_2 t36, gT_3 t36, gT_4 t36, gT_5 t36, gT_6 t36, gT_7 t36, gT_8 t36, gT_9 t36, gT_10 t36, gT_11 t36, gT_12 t36, gT_13 t36, gT_14 t36, gT_15 t36, gT_16 t36, gT_17 t36, pT_10 t36, pT_11 t36, pT_12 t36, pT_13 t36, pT_14 t36, pT_15 t36, pT_16 t36, pT_17 t36, aT_1 t36, aT_2 t36, aT_3 t36, aT_4 t36, aT_5 t36, aT_6 t36, aT_7 t36, aT_8 t36, aT_9 t36, sT_1 t36, sT_2 t36, sT_3 t36, sT_4 t36, sT_5 t36, sT_6 t36, sT_7 t36, sT_8 t36, sT_9 t36, vT t36, c_has t36 hC h8, ho, bI_0, Bool.true_eq_false, Bool.false_eq_true, not_true_eq_false, not_false_eq_true, if_false, reduceCtorEq]
        rw [e52_15, swZ_no (by decide) (by simp; omega)]
        simp only [e52_149, e52_151]
      · simp (disch := omega) only [e134_0, e134_1, e134_2, e134_5, e134_8, e134_9, e134_10, e134_11, e134_14, e134_17, e134_20, e134_22, ↓reduceIte, gM_0, a_94, inb_n, ix_n, if_true, ne_eq, Nat.reduceEqDiff, not_false_eq_true, vM, clK_s, tl_s, tl_n, clr_i, clr_n, clr_a, nI_add, k_isOne hM h8, ho, k_in, rgL_c, tL_0, tL_1, tL_2, tL_3, tL_4, tL_5, tL_6, tL_7, tL_8, tL_19, tL_30, tL_48, tL_50, tL_57, tL_60, tL_97, tL_100, tL_122, tL_200, tL_99999, tL_m1, tL_m99999, hb, bI_0, Bool.true_eq_false, Bool.false_eq_true, not_true_eq_false, not_false_eq_true, if_false, reduceCtorEq]
    | true =>
      obtain ⟨wz, hw, rfl⟩ := rg_e (n := 6) rfl hb
      obtain ⟨cz, hc6, ec⟩ := (hW.2.1 kz hk).2.1
      have href : ∀ j, j < 5 → Rn E (d + 50) 134 0 [some (.ref 93), some (.int (nI kz)), some (.int (nI j))] [] (shp, σ) = some (some (.int (tF A kz j)), (shp, σ)) := by
        intro j hj
        have hbj : rg 0 6 (nI j) = true := by rw [show (6 : Int) = ((6 : Nat) : Int) from rfl, rg_nI (by omega)]; simp; omega
        have hj2 : ¬ 5 ≤ j := by omega
        have f := hM.2.1 kz hk j hj
        simp (disch := omega) only [e134_0, e134_1, e134_2, e134_5, e134_8, e134_9, e134_10, e134_11, e134_14, e134_17, e134_20, e134_22, e134_23, e134_24, e134_25, e134_28, e134_29, e134_30, e134_31, e134_34, e134_37, e134_38, e134_39, e134_42, e134_43, e134_44, e134_45, e134_46, e134_49, e134_50, e134_51, e134_54, e134_57, e134_60, e134_63, e134_64, e134_65, e134_68, ↓reduceIte, gM_0, a_94, inb_n, ix_n, if_true, ne_eq, Nat.reduceEqDiff, not_false_eq_true, vM, clK_s, tl_s, tl_n, clr_i, clr_n, clr_a, nI_add, k_isOne hM h8, ho, k_in, rgL_c, tL_0, tL_1, tL_2, tL_3, tL_4, tL_5, tL_6, tL_7, tL_8, tL_19, tL_30, tL_48, tL_50, tL_57, tL_60, tL_97, tL_100, tL_122, tL_200, tL_99999, tL_m1, tL_m99999, hbj, bI_0, Bool.true_eq_false, Bool.false_eq_true, not_true_eq_false, not_false_eq_true, if_false, reduceCtorEq, nI_leI, hj2, k_of, f]
      have p0 := hC.k0 hk
      have p1 := hC.k1 hk
      have p2 := hC.k2 hk
      have p3 := hC.k3 hk
      have p4 := hC.k4 hk
      match wz, hw with
      | 0, _ =>
        refine ok_read (vv := tF A kz 0) hI ?_ (href 0 (by omega))
        simp (disch := omega) only [e52_0, e52_1, e52_4, e52_5, e52_8, e52_11, e52_13, e52_14, ↓reduceIte, inb_n, ix_n, if_true, ne_eq, Nat.reduceEqDiff, not_false_eq_true, clK_s, tl_s, tl_n, clr_i, clr_n, clr_a, nI_add, gX_2, gT_0 t36, gT_1 t36, gT_2 t36, gT_3 t36, gT_4 t36, gT_5 t36, gT_6 t36, gT_7 t36, gT_8 t36, gT_9 t36, gT_10 t36, gT_11 t36, gT_12 t36, gT_13 t36, gT_14 t36, gT_15 t36, gT_16 t36, gT_17 t36, pT_10 t36, pT_11 t36, pT_12 t36, pT_13 t36, pT_14 t36, pT_15 t36, pT_16 t36, pT_17 t36, aT_1 t36, aT_2 t36, aT_3 t36, aT_4 t36, aT_5 t36, aT_6 t36, aT_7 t36, aT_8 t36, aT_9 t36, sT_1 t36, sT_2 t36, sT_3 t36, sT_4 t36, sT_5 t36, sT_6 t36, sT_7 t36, sT_8 t36, sT_9 t36, vT t36, c_has t36 hC h8, ho, bI_0, Bool.true_eq_false, Bool.false_eq_true, not_true_eq_false, not_false_eq_true, if_false, reduceCtorEq]
        rw [e52_15, swZ_n (by decide) (by decide)]
        show Rn E (d + 50) 52 56 _ _ _ = _
        simp (disch := omega) only [e52_56, e52_57, e52_60, e52_63, e52_64, e52_65, e52_66, e52_67, e52_70, e52_73, e52_74, e52_75, e52_76, e52_77, e52_80, e52_83, e52_84, e52_85, e52_86, e52_87, e52_90, e52_93, e52_94, e52_95, e52_96, e52_97, e52_100, e52_103, e52_104, e52_105, e52_106, e52_107, e52_110, e52_113, e52_114, e52_115, e52_116, e52_119, e52_120, e52_123, e52_126, e52_127, e52_128, e52_131, e52_134, e52_135, e52_136, e52_137, e52_140, e52_143, e52_144, e52_145, e52_148, ↓reduceIte, inb_n, ix_n, if_true, ne_eq, Nat.reduceEqDiff, not_false_eq_true, clK_s, tl_s, tl_n, clr_i, clr_n, clr_a, nI_add, gX_2, gT_0 t36, gT_1 t36, gT_2 t36, gT_3 t36, gT_4 t36, gT_5 t36, gT_6 t36, gT_7 t36, gT_8 t36, gT_9 t36, gT_10 t36, gT_11 t36, gT_12 t36, gT_13 t36, gT_14 t36, gT_15 t36, gT_16 t36, gT_17 t36, pT_10 t36, pT_11 t36, pT_12 t36, pT_13 t36, pT_14 t36, pT_15 t36, pT_16 t36, pT_17 t36, aT_1 t36, aT_2 t36, aT_3 t36, aT_4 t36, aT_5 t36, aT_6 t36, aT_7 t36, aT_8 t36, aT_9 t36, sT_1 t36, sT_2 t36, sT_3 t36, sT_4 t36, sT_5 t36, sT_6 t36, sT_7 t36, sT_8 t36, sT_9 t36, vT t36, p0]
      | 1, _ =>
        refine ok_read (vv := tF A kz 1) hI ?_ (href 1 (by omega))
        simp (disch := omega) only [e52_0, e52_1, e52_4, e52_5, e52_8, e52_11, e52_13, e52_14, ↓reduceIte, inb_n, ix_n, if_true, ne_eq, Nat.reduceEqDiff, not_false_eq_true, clK_s, tl_s, tl_n, clr_i, clr_n, clr_a, nI_add, gX_2, gT_0 t36, gT_1 t36, gT_2 t36, gT_3 t36, gT_4 t36, gT_5 t36, gT_6 t36, gT_7 t36, gT_8 t36, gT_9 t36, gT_10 t36, gT_11 t36, gT_12 t36, gT_13 t36, gT_14 t36, gT_15 t36, gT_16 t36, gT_17 t36, pT_10 t36, pT_11 t36, pT_12 t36, pT_13 t36, pT_14 t36, pT_15 t36, pT_16 t36, pT_17 t36, aT_1 t36, aT_2 t36, aT_3 t36, aT_4 t36, aT_5 t36, aT_6 t36, aT_7 t36, aT_8 t36, aT_9 t36, sT_1 t36, sT_2 t36, sT_3 t36, sT_4 t36, sT_5 t36, sT_6 t36, sT_7 t36, sT_8 t36, sT_9 t36, vT t36, c_has t36 hC h8, ho, bI_0, Bool.true_eq_false, Bool.false_eq_true, not_true_eq_false, not_false_eq_true, if_false, reduceCtorEq]
        rw [e52_15, swZ_n (by decide) (by decide)]
        show Rn E (d + 50) 52 66 _ _ _ = _
        simp (disch := omega) only [e52_56, e52_57, e52_60, e52_63, e52_64, e52_65, e52_66, e52_67, e52_70, e52_73, e52_74, e52_75, e52_76, e52_77, e52_80, e52_83, e52_84, e52_85, e52_86, e52_87, e52_90, e52_93, e52_94, e52_95, e52_96, e52_97, e52_100, e52_103, e52_104, e52_105, e52_106, e52_107, e52_110, e52_113, e52_114, e52_115, e52_116, e52_119, e52_120, e52_123, e52_126, e52_127, e52_128, e52_131, e52_134, e52_135, e52_136, e52_137, e52_140, e52_143, e52_144, e52_145, e52_148, ↓reduceIte, inb_n, ix_n, if_true, ne_eq, Nat.reduceEqDiff, not_false_eq_true, clK_s, tl_s, tl_n, clr_i, clr_n, clr_a, nI_add, gX_2, gT_0 t36, gT_1 t36, gT_2 t36, gT_3 t36, gT_4 t36, gT_5 t36, gT_6 t36, gT_7 t36, gT_8 t36, gT_9 t36, gT_10 t36, gT_11 t36, gT_12 t36, gT_13 t36, gT_14 t36, gT_15 t36, gT_16 t36, gT_17 t36, pT_10 t36, pT_11 t36, pT_12 t36, pT_13 t36, pT_14 t36, pT_15 t36, pT_16 t36, pT_17 t36, aT_1 t36, aT_2 t36, aT_3 t36, aT_4 t36, aT_5 t36, aT_6 t36, aT_7 t36, aT_8 t36, aT_9 t36, sT_1 t36, sT_2 t36, sT_3 t36, sT_4 t36, sT_5 t36, sT_6 t36, sT_7 t36, sT_8 t36, sT_9 t36, vT t36, p1]
      | 2, _ =>
        refine ok_read (vv := tF A kz 2) hI ?_ (href 2 (by omega))
        simp (disch := omega) only [e52_0, e52_1, e52_4, e52_5, e52_8, e52_11, e52_13, e52_14, ↓reduceIte, inb_n, ix_n, if_true, ne_eq, Nat.reduceEqDiff, not_false_eq_true, clK_s, tl_s, tl_n, clr_i, clr_n, clr_a, nI_add, gX_2, gT_0 t36, gT_1 t36, gT_2 t36, gT_3 t36, gT_4 t36, gT_5 t36, gT_6 t36, gT_7 t36, gT_8 t36, gT_9 t36, gT_10 t36, gT_11 t36, gT_12 t36, gT_13 t36, gT_14 t36, gT_15 t36, gT_16 t36, gT_17 t36, pT_10 t36, pT_11 t36, pT_12 t36, pT_13 t36, pT_14 t36, pT_15 t36, pT_16 t36, pT_17 t36, aT_1 t36, aT_2 t36, aT_3 t36, aT_4 t36, aT_5 t36, aT_6 t36, aT_7 t36, aT_8 t36, aT_9 t36, sT_1 t36, sT_2 t36, sT_3 t36, sT_4 t36, sT_5 t36, sT_6 t36, sT_7 t36, sT_8 t36, sT_9 t36, vT t36, c_has t36 hC h8, ho, bI_0, Bool.true_eq_false, Bool.false_eq_true, not_true_eq_false, not_false_eq_true, if_false, reduceCtorEq]
        rw [e52_15, swZ_n (by decide) (by decide)]
        show Rn E (d + 50) 52 76 _ _ _ = _
        simp (disch := omega) only [e52_56, e52_57, e52_60, e52_63, e52_64, e52_65, e52_66, e52_67, e52_70, e52_73, e52_74, e52_75, e52_76, e52_77, e52_80, e52_83, e52_84, e52_85, e52_86, e52_87, e52_90, e52_93, e52_94, e52_95, e52_96, e52_97, e52_100, e52_103, e52_104, e52_105, e52_106, e52_107, e52_110, e52_113, e52_114, e52_115, e52_116, e52_119, e52_120, e52_123, e52_126, e52_127, e52_128, e52_131, e52_134, e52_135, e52_136, e52_137, e52_140, e52_143, e52_144, e52_145, e52_148, ↓reduceIte, inb_n, ix_n, if_true, ne_eq, Nat.reduceEqDiff, not_false_eq_true, clK_s, tl_s, tl_n, clr_i, clr_n, clr_a, nI_add, gX_2, gT_0 t36, gT_1 t36, gT_2 t36, gT_3 t36, gT_4 t36, gT_5 t36, gT_6 t36, gT_7 t36, gT_8 t36, gT_9 t36, gT_10 t36, gT_11 t36, gT_12 t36, gT_13 t36, gT_14 t36, gT_15 t36, gT_16 t36, gT_17 t36, pT_10 t36, pT_11 t36, pT_12 t36, pT_13 t36, pT_14 t36, pT_15 t36, pT_16 t36, pT_17 t36, aT_1 t36, aT_2 t36, aT_3 t36, aT_4 t36, aT_5 t36, aT_6 t36, aT_7 t36, aT_8 t36, aT_9 t36, sT_1 t36, sT_2 t36, sT_3 t36, sT_4 t36, sT_5 t36, sT_6 t36, sT_7 t36, sT_8 t36, sT_9 t36, vT t36, p2]
      | 3, _ =>
        refine ok_read (vv := tF A kz 3) hI ?_ (href 3 (by omega))
        simp (disch := omega) only [e52_0, e52_1, e52_4, e52_5, e52_8, e52_11, e52_13, e52_14, ↓reduceIte, inb_n, ix_n, if_true, ne_eq, Nat.reduceEqDiff, not_false_eq_true, clK_s, tl_s, tl_n, clr_i, clr_n, clr_a, nI_add, gX_2, gT_0 t36, gT_1 t36, gT_2 t36, gT_3 t36, gT_4 t36, gT_5 t36, gT_6 t36, gT_7 t36, gT_8 t36, gT_9 t36, gT_10 t36, gT_11 t36, gT_12 t36, gT_13 t36, gT_14 t36, gT_15 t36, gT_16 t36, gT_17 t36, pT_10 t36, pT_11 t36, pT_12 t36, pT_13 t36, pT_14 t36, pT_15 t36, pT_16 t36, pT_17 t36, aT_1 t36, aT_2 t36, aT_3 t36, aT_4 t36, aT_5 t36, aT_6 t36, aT_7 t36, aT_8 t36, aT_9 t36, sT_1 t36, sT_2 t36, sT_3 t36, sT_4 t36, sT_5 t36, sT_6 t36, sT_7 t36, sT_8 t36, sT_9 t36, vT t36, c_has t36 hC h8, ho, bI_0, Bool.true_eq_false, Bool.false_eq_true, not_true_eq_false, not_false_eq_true, if_false, reduceCtorEq]
        rw [e52_15, swZ_n (by decide) (by decide)]
        show Rn E (d + 50) 52 86 _ _ _ = _
        simp (disch := omega) only [e52_56, e52_57, e52_60, e52_63, e52_64, e52_65, e52_66, e52_67, e52_70, e52_73, e52_74, e52_75, e52_76, e52_77, e52_80, e52_83, e52_84, e52_85, e52_86, e52_87, e52_90, e52_93, e52_94, e52_95, e52_96, e52_97, e52_100, e52_103, e52_104, e52_105, e52_106, e52_107, e52_110, e52_113, e52_114, e52_115, e52_116, e52_119, e52_120, e52_123, e52_126, e52_127, e52_128, e52_131, e52_134, e52_135, e52_136, e52_137, e52_140, e52_143, e52_144, e52_145, e52_148, ↓reduceIte, inb_n, ix_n, if_true, ne_eq, Nat.reduceEqDiff, not_false_eq_true, clK_s, tl_s, tl_n, clr_i, clr_n, clr_a, nI_add, gX_2, gT_0 t36, gT_1 t36, gT_2 t36, gT_3 t36, gT_4 t36, gT_5 t36, gT_6 t36, gT_7 t36, gT_8 t36, gT_9 t36, gT_10 t36, gT_11 t36, gT_12 t36, gT_13 t36, gT_14 t36, gT_15 t36, gT_16 t36, gT_17 t36, pT_10 t36, pT_11 t36, pT_12 t36, pT_13 t36, pT_14 t36, pT_15 t36, pT_16 t36, pT_17 t36, aT_1 t36, aT_2 t36, aT_3 t36, aT_4 t36, aT_5 t36, aT_6 t36, aT_7 t36, aT_8 t36, aT_9 t36, sT_1 t36, sT_2 t36, sT_3 t36, sT_4 t36, sT_5 t36, sT_6 t36, sT_7 t36, sT_8 t36, sT_9 t36, vT t36, p3]
      | 4, _ =>
        refine ok_read (vv := tF A kz 4) hI ?_ (href 4 (by omega))
        simp (disch := omega) only [e52_0, e52_1, e52_4, e52_5, e52_8, e52_11, e52_13, e52_14, ↓reduceIte, inb_n, ix_n, if_true, ne_eq, Nat.reduceEqDiff, not_false_eq_true, clK_s, tl_s, tl_n, clr_i, clr_n, clr_a, nI_add, gX_2, gT_0 t36, gT_1 t36, gT_2 t36, gT_3 t36, gT_4 t36, gT_5 t36, gT_6 t36, gT_7 t36, gT_8 t36, gT_9 t36, gT_10 t36, gT_11 t36, gT_12 t36, gT_13 t36, gT_14 t36, gT_15 t36, gT_16 t36, gT_17 t36, pT_10 t36, pT_11 t36, pT_12 t36, pT_13 t36, pT_14 t36, pT_15 t36, pT_16 t36, pT_17 t36, aT_1 t36, aT_2 t36, aT_3 t36, aT_4 t36, aT_5 t36, aT_6 t36, aT_7 t36, aT_8 t36, aT_9 t36, sT_1 t36, sT_2 t36, sT_3 t36, sT_4 t36, sT_5 t36, sT_6 t36, sT_7 t36, sT_8 t36, sT_9 t36, vT t36, c_has t36 hC h8, ho, bI_0, Bool.true_eq_false, Bool.false_eq_true, not_true_eq_false, not_false_eq_true, if_false, reduceCtorEq]
        rw [e52_15, swZ_n (by decide) (by decide)]
        show Rn E (d + 50) 52 96 _ _ _ = _
        simp (disch := omega) only [e52_56, e52_57, e52_60, e52_63, e52_64, e52_65, e52_66, e52_67, e52_70, e52_73, e52_74, e52_75, e52_76, e52_77, e52_80, e52_83, e52_84, e52_85, e52_86, e52_87, e52_90, e52_93, e52_94, e52_95, e52_96, e52_97, e52_100, e52_103, e52_104, e52_105, e52_106, e52_107, e52_110, e52_113, e52_114, e52_115, e52_116, e52_119, e52_120, e52_123, e52_126, e52_127, e52_128, e52_131, e52_134, e52_135, e52_136, e52_137, e52_140, e52_143, e52_144, e52_145, e52_148, ↓reduceIte, inb_n, ix_n, if_true, ne_eq, Nat.reduceEqDiff, not_false_eq_true, clK_s, tl_s, tl_n, clr_i, clr_n, clr_a, nI_add, gX_2, gT_0 t36, gT_1 t36, gT_2 t36, gT_3 t36, gT_4 t36, gT_5 t36, gT_6 t36, gT_7 t36, gT_8 t36, gT_9 t36, gT_10 t36, gT_11 t36, gT_12 t36, gT_13 t36, gT_14 t36, gT_15 t36, gT_16 t36, gT_17 t36, pT_10 t36, pT_11 t36, pT_12 t36, pT_13 t36, pT_14 t36, pT_15 t36, pT_16 t36, pT_17 t36, aT_1 t36, aT_2 t36, aT_3 t36, aT_4 t36, aT_5 t36, aT_6 t36, aT_7 t36, aT_8 t36, aT_9 t36, sT_1 t36, sT_2 t36, sT_3 t36, sT_4 t36, sT_5 t36, sT_6 t36, sT_7 t36, sT_8 t36, sT_9 t36, vT t36, p4]
      | 5, _ =>
        obtain ⟨σ1, a1, a2, a3⟩ := c_eyesOn (E := E) (d := d + 44) t36 hC hX hR hW hk
        have e94 : σ1 94 = σ 94 := a2 94 (by omega) (by omega)
        have hM1 : MR (σ1 94) A := by rw [e94]; exact hM
        obtain ⟨σ2, b1, b2⟩ := k_eyesOf (E := E) (d := d + 44) hM1 hW hX hk
        have hM2 : MR (σ2 94) A := by rw [b2 94 (by decide)]; exact hM1
        have hcn : spCn A kz < 2 ^ 31 := by have : spCn A kz ≤ tN A := cn_le; omega
        have f0 : σ1 94 (10 + 5 * kz + 0) = nI cz := by rw [hM1.2.1 kz hk 0 (by omega), ec]
        have p0c : σ (36 + 1) kz = nI cz := by rw [p0, ec]
        refine ⟨grK (nI cz) (nI (spCn A kz)), σ1, σ2, A, B, im, ?_, ?_, hI.same ((QT.f36 a2).tr (QT.fr (b2.mono (by decide)))) (a3.ext (fun a h1 h2 _ => b2 a (by simp; omega))) hM2⟩
        · simp (disch := omega) only [e52_0, e52_1, e52_4, e52_5, e52_8, e52_11, e52_13, e52_14, ↓reduceIte, inb_n, ix_n, if_true, ne_eq, Nat.reduceEqDiff, not_false_eq_true, clK_s, tl_s, tl_n, clr_i, clr_n, clr_a, nI_add, gX_2, gT_0 t36, gT_1 t36, gT_2 t36, gT_3 t36, gT_4 t36, gT_5 t36, gT_6 t36, gT_7 t36, gT_8 t36, gT_9 t36, gT_10 t36, gT_11 t36, gT_12 t36, gT_13 t36, gT_14 t36, gT_15 t36, gT_16 t36, gT_17 t36, pT_10 t36, pT_11 t36, pT_12 t36, pT_13 t36, pT_14 t36, pT_15 t36, pT_16 t36, pT_17 t36, aT_1 t36, aT_2 t36, aT_3 t36, aT_4 t36, aT_5 t36, aT_6 t36, aT_7 t36, aT_8 t36, aT_9 t36, sT_1 t36, sT_2 t36, sT_3 t36, sT_4 t36, sT_5 t36, sT_6 t36, sT_7 t36, sT_8 t36, sT_9 t36, vT t36, c_has t36 hC h8, ho, bI_0, Bool.true_eq_false, Bool.false_eq_true, not_true_eq_false, not_false_eq_true, if_false, reduceCtorEq]
          rw [e52_15, swZ_n (by decide) (by decide)]
          show Rn E (d + 50) 52 106 _ _ _ = _
          simp (disch := omega) only [e52_56, e52_57, e52_60, e52_63, e52_64, e52_65, e52_66, e52_67, e52_70, e52_73, e52_74, e52_75, e52_76, e52_77, e52_80, e52_83, e52_84, e52_85, e52_86, e52_87, e52_90, e52_93, e52_94, e52_95, e52_96, e52_97, e52_100, e52_103, e52_104, e52_105, e52_106, e52_107, e52_110, e52_113, e52_114, e52_115, e52_116, e52_119, e52_120, e52_123, e52_126, e52_127, e52_128, e52_131, e52_134, e52_135, e52_136, e52_137, e52_140, e52_143, e52_144, e52_145, e52_148, ↓reduceIte, inb_n, ix_n, if_true, ne_eq, Nat.reduceEqDiff, not_false_eq_true, clK_s, tl_s, tl_n, clr_i, clr_n, clr_a, nI_add, gX_2, gT_0 t36, gT_1 t36, gT_2 t36, gT_3 t36, gT_4 t36, gT_5 t36, gT_6 t36, gT_7 t36, gT_8 t36, gT_9 t36, gT_10 t36, gT_11 t36, gT_12 t36, gT_13 t36, gT_14 t36, gT_15 t36, gT_16 t36, gT_17 t36, pT_10 t36, pT_11 t36, pT_12 t36, pT_13 t36, pT_14 t36, pT_15 t36, pT_16 t36, pT_17 t36, aT_1 t36, aT_2 t36, aT_3 t36, aT_4 t36, aT_5 t36, aT_6 t36, aT_7 t36, aT_8 t36, aT_9 t36, sT_1 t36, sT_2 t36, sT_3 t36, sT_4 t36, sT_5 t36, sT_6 t36, sT_7 t36, sT_8 t36, sT_9 t36, vT t36, p0c, a1, c_growth hc6 hcn]
        · simp (disch := omega) only [e134_0, e134_1, e134_2, e134_5, e134_8, e134_9, e134_10, e134_11, e134_14, e134_17, e134_20, e134_22, e134_23, e134_24, e134_25, e134_28, e134_29, e134_30, e134_31, e134_34, e134_37, e134_38, e134_39, e134_42, e134_43, e134_44, e134_45, e134_46, e134_49, e134_50, e134_51, e134_54, e134_57, e134_60, e134_63, e134_64, e134_65, e134_68, ↓reduceIte, gM_0, a_94, inb_n, ix_n, if_true, ne_eq, Nat.reduceEqDiff, not_false_eq_true, vM, clK_s, tl_s, tl_n, clr_i, clr_n, clr_a, nI_add, k_isOne hM1 h8, ho, k_in, rgL_c, tL_0, tL_1, tL_2, tL_3, tL_4, tL_5, tL_6, tL_7, tL_8, tL_19, tL_30, tL_48, tL_50, tL_57, tL_60, tL_97, tL_100, tL_122, tL_200, tL_99999, tL_m1, tL_m99999, hb, bI_0, Bool.true_eq_false, Bool.false_eq_true, not_true_eq_false, not_false_eq_true, if_false, reduceCtorEq, nI_leI, Nat.le_refl, k_of, f0, b1, k_manyE hW, k_grows hc6]
      | 6, _ =>
        have p0c : σ (36 + 1) kz = nI cz := by rw [p0, ec]
        have q5 : 5 ≤ 6 := by omega
        refine ok_read (vv := woK (nI cz) (tF A kz 2)) hI ?_ ?_
        · simp (disch := omega) only [e52_0, e52_1, e52_4, e52_5, e52_8, e52_11, e52_13, e52_14, ↓reduceIte, inb_n, ix_n, if_true, ne_eq, Nat.reduceEqDiff, not_false_eq_true, clK_s, tl_s, tl_n, clr_i, clr_n, clr_a, nI_add, gX_2, gT_0 t36, gT_1 t36, gT_2 t36, gT_3 t36, gT_4 t36, gT_5 t36, gT_6 t36, gT_7 t36, gT_8 t36, gT_9 t36, gT_10 t36, gT_11 t36, gT_12 t36, gT_13 t36, gT_14 t36, gT_15 t36, gT_16 t36, gT_17 t36, pT_10 t36, pT_11 t36, pT_12 t36, pT_13 t36, pT_14 t36, pT_15 t36, pT_16 t36, pT_17 t36, aT_1 t36, aT_2 t36, aT_3 t36, aT_4 t36, aT_5 t36, aT_6 t36, aT_7 t36, aT_8 t36, aT_9 t36, sT_1 t36, sT_2 t36, sT_3 t36, sT_4 t36, sT_5 t36, sT_6 t36, sT_7 t36, sT_8 t36, sT_9 t36, vT t36, c_has t36 hC h8, ho, bI_0, Bool.true_eq_false, Bool.false_eq_true, not_true_eq_false, not_false_eq_true, if_false, reduceCtorEq]
          rw [e52_15, swZ_n (by decide) (by decide)]
          show Rn E (d + 50) 52 127 _ _ _ = _
          simp (disch := omega) only [e52_56, e52_57, e52_60, e52_63, e52_64, e52_65, e52_66, e52_67, e52_70, e52_73, e52_74, e52_75, e52_76, e52_77, e52_80, e52_83, e52_84, e52_85, e52_86, e52_87, e52_90, e52_93, e52_94, e52_95, e52_96, e52_97, e52_100, e52_103, e52_104, e52_105, e52_106, e52_107, e52_110, e52_113, e52_114, e52_115, e52_116, e52_119, e52_120, e52_123, e52_126, e52_127, e52_128, e52_131, e52_134, e52_135, e52_136, e52_137, e52_140, e52_143, e52_144, e52_145, e52_148, ↓reduceIte, inb_n, ix_n, if_true, ne_eq, Nat.reduceEqDiff, not_false_eq_true, clK_s, tl_s, tl_n, clr_i, clr_n, clr_a, nI_add, gX_2, gT_0 t36, gT_1 t36, gT_2 t36, gT_3 t36, gT_4 t36, gT_5 t36, gT_6 t36, gT_7 t36, gT_8 t36, gT_9 t36, gT_10 t36, gT_11 t36, gT_12 t36, gT_13 t36, gT_14 t36, gT_15 t36, gT_16 t36, gT_17 t36, pT_10 t36, pT_11 t36, pT_12 t36, pT_13 t36, pT_14 t36, pT_15 t36, pT_16 t36, pT_17 t36, aT_1 t36, aT_2 t36, aT_3 t36, aT_4 t36, aT_5 t36, aT_6 t36, aT_7 t36, aT_8 t36, aT_9 t36, sT_1 t36, sT_2 t36, sT_3 t36, sT_4 t36, sT_5 t36, sT_6 t36, sT_7 t36, sT_8 t36, sT_9 t36, vT t36, p0c, p2, c_worth hc6]
        · simp (disch := omega) only [e134_0, e134_1, e134_2, e134_5, e134_8, e134_9, e134_10, e134_11, e134_14, e134_17, e134_20, e134_22, e134_23, e134_24, e134_25, e134_28, e134_29, e134_30, e134_31, e134_34, e134_37, e134_38, e134_39, e134_42, e134_43, e134_44, e134_45, e134_46, e134_49, e134_50, e134_51, e134_54, e134_57, e134_60, e134_63, e134_64, e134_65, e134_68, ↓reduceIte, gM_0, a_94, inb_n, ix_n, if_true, ne_eq, Nat.reduceEqDiff, not_false_eq_true, vM, clK_s, tl_s, tl_n, clr_i, clr_n, clr_a, nI_add, k_isOne hM h8, ho, k_in, rgL_c, tL_0, tL_1, tL_2, tL_3, tL_4, tL_5, tL_6, tL_7, tL_8, tL_19, tL_30, tL_48, tL_50, tL_57, tL_60, tL_97, tL_100, tL_122, tL_200, tL_99999, tL_m1, tL_m99999, hb, bI_0, Bool.true_eq_false, Bool.false_eq_true, not_true_eq_false, not_false_eq_true, if_false, reduceCtorEq, nI_leI, q5, nI_lt2, k_worth hM hW hk]
          rw [ec]
end Ops3
