/-! MARKING, POURING, READING -/
section Marks
variable {E : aE} {d h : Nat} {σ : Nat → Nat → Int32} {A B : Tn} {im : Bool}
theorem len_rg {n : Nat} {xv : Int32} (hn : n ≤ 24) : rg 0 (nI n - nI 1).toInt xv = decide (0 ≤ xv.toInt ∧ xv.toInt < n) := by
  unfold rg
  congr 1
  apply propext
  by_cases h0 : n = 0
  · rw [h0, show (nI 0 - nI 1).toInt = -1 from by decide +kernel]; omega
  · rw [pk_sub (by omega), nI_toInt (by omega)]; omega
def inB (n : Nat) (xv : Int32) : Bool := decide (0 ≤ xv.toInt ∧ xv.toInt < n)
theorem inB_ex {n : Nat} {xv : Int32} (hb : inB n xv = true) : ∃ iz, iz < n ∧ xv = nI iz := by
  have h1 := of_decide_eq_true hb
  refine ⟨xv.toInt.toNat, by omega, ?_⟩
  apply Int32.toInt_inj.mp
  have h2 : xv.toInt < 2 ^ 31 := Int32.toInt_lt xv
  rw [nI_toInt (by omega)]
  omega
theorem RLs_put {kz iz : Nat} {zv : Int32} (hS : RLs σ) (hk : kz < 4) (hi : iz < 24) (hz : zv = (-1000000005) ∨ rg (-99999) 99999 zv = true) : RLs (su (su σ (70 + 2 * kz + 1) iz zv) 99 (24 * kz + iz) zv) := by
  intro j hj
  obtain ⟨s1, s2, s3, s4, s5⟩ := hS j hj
  have r0 : su (su σ (70 + 2 * kz + 1) iz zv) 99 (24 * kz + iz) zv (70 + 2 * j) = σ (70 + 2 * j) := by rw [su_row (by omega), su_row (by omega)]
  have r97 : su (su σ (70 + 2 * kz + 1) iz zv) 99 (24 * kz + iz) zv 97 = σ 97 := by rw [su_row (by omega), su_row (by omega)]
  have r98 : su (su σ (70 + 2 * kz + 1) iz zv) 99 (24 * kz + iz) zv 98 = σ 98 := by rw [su_row (by omega), su_row (by omega)]
  rw [r0, r97, r98]
  refine ⟨s1, s2, s3, s4, fun i hi2 => ?_⟩
  rw [su_rf, su_row (by omega)]
  rw [show su σ (70 + 2 * kz + 1) iz zv 99 = σ 99 from su_row (by omega)]
  by_cases hq : j = kz
  · subst hq
    rw [su_rf]
    by_cases hqi : i = iz
    · subst hqi
      rw [pk_us, pk_us]
      exact ⟨rfl, hz⟩
    · rw [pk_un hqi, pk_un (by omega)]
      exact s5 i hi2
  · rw [su_row (by omega), pk_un (by omega)]
    exact s5 i hi2
theorem op_mark {xv pv zv : Int32} (hI : INV σ A B im) : OK2 σ (Rn E (d + 50) 84 0 [some (.ref 0), some (.int xv), some (.int pv), some (.int zv), none, none] []) (Rn E (d + 50) 193 0 [some (.ref 93), some (.int xv), some (.int pv), some (.int zv)] []) := by
  obtain ⟨_, _, hL⟩ := id hI
  have hS := hL.1
  cases hb : rg 0 3 xv with
  | false =>
    have z1 : ¬ (-1000000001 : Int32) = nI 0 := by decide +kernel
    refine ok_read (vv := (-1000000001)) hI ?_ ?_
    · simp (disch := omega) only [e84_0, e84_1, e84_2, e84_5, e84_7, e84_9, e84_12, e84_14, e84_15, e84_16, e84_19, e84_20, e84_21, e84_23, e84_24, e84_25, e84_27, e84_30, e84_31, e84_32, e84_35, e84_38, e84_40, e84_41, e84_43, e84_46, e84_49, e84_50, e84_52, e84_55, e84_57, e84_58, e84_60, e84_63, e84_64, e84_65, e84_66, e84_67, e84_68, e84_69, e84_70, e84_72, e84_75, e84_76, e84_78, e84_80, e84_83, e84_86, e84_88, e84_89, e84_91, e84_94, e84_95, e84_96, e84_97, e84_98, ↓reduceIte, inb_n, ix_n, if_true, ne_eq, Nat.reduceEqDiff, not_false_eq_true, clK_s, tl_s, tl_n, clr_i, clr_n, clr_a, nI_add, vX, c_sfBad hb, z1]
    · simp (disch := omega) only [e193_0, e193_1, e193_4, e193_7, e193_9, e193_10, e193_11, e193_14, e193_15, e193_16, e193_19, e193_22, e193_23, e193_24, e193_25, e193_26, e193_27, e193_30, e193_31, e193_32, e193_33, e193_34, e193_35, e193_38, e193_41, e193_44, e193_45, e193_46, e193_49, e193_50, e193_51, e193_54, e193_55, e193_57, e193_60, e193_62, e193_63, e193_64, e193_67, e193_68, e193_69, e193_70, e193_73, e193_74, e193_76, e193_79, e193_80, e193_81, e193_84, e193_87, e193_90, e193_93, e193_95, e193_96, e193_97, e193_100, e193_102, e193_103, e193_104, e193_105, e193_106, e193_107, e193_110, e193_111, e193_112, e193_115, e193_116, e193_118, e193_119, e193_121, e193_122, e193_125, e193_126, e193_127, e193_128, ↓reduceIte, gM_0, a_94, inb_n, ix_n, if_true, ne_eq, Nat.reduceEqDiff, not_false_eq_true, vM, clK_s, tl_s, tl_n, clr_i, clr_n, clr_a, nI_add, k_isSheet, hb, bI_0, Bool.true_eq_false, Bool.false_eq_true, not_true_eq_false, not_false_eq_true, if_false, reduceCtorEq]
  | true =>
    obtain ⟨kz, hk, rfl⟩ := rg_e (n := 3) rfl hb
    have hk : kz < 4 := by omega
    obtain ⟨s1, s2, s3, ⟨n, hn, s4⟩, s5⟩ := hS kz hk
    obtain ⟨sn1, sn2⟩ := sort_neg s3
    have c2 : σ (70 + 2 * kz) 2 = nI n := by rw [s2, s4]
    by_cases hm : σ 97 kz = (-1)
    · have z1 : ¬ (-1000000011 : Int32) = nI 0 := by decide +kernel
      have hf : sfV (σ (70 + 2 * kz) 1) = (-1000000011) := by unfold sfV; rw [s1, if_pos hm]
      have g2 : ¬ nI 0 ≤ σ 97 kz := fun z => sn2.mp z hm
      refine ok_read (vv := (-1000000011)) hI ?_ ?_
      · simp (disch := omega) only [e84_0, e84_1, e84_2, e84_5, e84_7, e84_9, e84_12, e84_14, e84_15, e84_16, e84_19, e84_20, e84_21, e84_23, e84_24, e84_25, e84_27, e84_30, e84_31, e84_32, e84_35, e84_38, e84_40, e84_41, e84_43, e84_46, e84_49, e84_50, e84_52, e84_55, e84_57, e84_58, e84_60, e84_63, e84_64, e84_65, e84_66, e84_67, e84_68, e84_69, e84_70, e84_72, e84_75, e84_76, e84_78, e84_80, e84_83, e84_86, e84_88, e84_89, e84_91, e84_94, e84_95, e84_96, e84_97, e84_98, ↓reduceIte, inb_n, ix_n, if_true, ne_eq, Nat.reduceEqDiff, not_false_eq_true, clK_s, tl_s, tl_n, clr_i, clr_n, clr_a, nI_add, vX, c_sf hk, hf, z1]
      · simp (disch := omega) only [e193_0, e193_1, e193_4, e193_7, e193_9, e193_10, e193_11, e193_14, e193_15, e193_16, e193_19, e193_22, e193_23, e193_24, e193_25, e193_26, e193_27, e193_30, e193_31, e193_32, e193_33, e193_34, e193_35, e193_38, e193_41, e193_44, e193_45, e193_46, e193_49, e193_50, e193_51, e193_54, e193_55, e193_57, e193_60, e193_62, e193_63, e193_64, e193_67, e193_68, e193_69, e193_70, e193_73, e193_74, e193_76, e193_79, e193_80, e193_81, e193_84, e193_87, e193_90, e193_93, e193_95, e193_96, e193_97, e193_100, e193_102, e193_103, e193_104, e193_105, e193_106, e193_107, e193_110, e193_111, e193_112, e193_115, e193_116, e193_118, e193_119, e193_121, e193_122, e193_125, e193_126, e193_127, e193_128, ↓reduceIte, gM_0, a_94, inb_n, ix_n, if_true, ne_eq, Nat.reduceEqDiff, not_false_eq_true, vM, clK_s, tl_s, tl_n, clr_i, clr_n, clr_a, nI_add, k_isSheet, hb, bI_0, Bool.true_eq_false, Bool.false_eq_true, not_true_eq_false, not_false_eq_true, if_false, reduceCtorEq, gM_4, a_97, g2]
    · have hf : sfV (σ (70 + 2 * kz) 1) = nI 0 := by unfold sfV; rw [s1, if_neg hm]
      have g2 : nI 0 ≤ σ 97 kz := sn2.mpr hm
      cases hp : inB n pv with
      | false =>
        have hp2 : rg 0 (nI n - nI 1).toInt pv = false := by rw [len_rg hn]; exact hp
        refine ok_read (vv := (-1000000013)) hI ?_ ?_
        · simp (disch := omega) only [e84_0, e84_1, e84_2, e84_5, e84_7, e84_9, e84_12, e84_14, e84_15, e84_16, e84_19, e84_20, e84_21, e84_23, e84_24, e84_25, e84_27, e84_30, e84_31, e84_32, e84_35, e84_38, e84_40, e84_41, e84_43, e84_46, e84_49, e84_50, e84_52, e84_55, e84_57, e84_58, e84_60, e84_63, e84_64, e84_65, e84_66, e84_67, e84_68, e84_69, e84_70, e84_72, e84_75, e84_76, e84_78, e84_80, e84_83, e84_86, e84_88, e84_89, e84_91, e84_94, e84_95, e84_96, e84_97, e84_98, ↓reduceIte, inb_n, ix_n, if_true, ne_eq, Nat.reduceEqDiff, not_false_eq_true, clK_s, tl_s, tl_n, clr_i, clr_n, clr_a, nI_add, vX, c_sf hk, hf, gX_5, q_66, gH_2 (isH_n hk), c2, c_isWithin, tI_0, tI_1, tI_2, tI_3, tI_4, tI_5, tI_6, tI_7, tI_8, tI_19, tI_20, tI_23, tI_24, tI_29, tI_30, tI_48, tI_50, tI_57, tI_60, tI_97, tI_100, tI_122, tI_200, tI_99999, tI_m1, tI_m99999, hp2, bI_0, Bool.true_eq_false, Bool.false_eq_true, not_true_eq_false, not_false_eq_true, if_false, reduceCtorEq]
        · simp (disch := omega) only [e193_0, e193_1, e193_4, e193_7, e193_9, e193_10, e193_11, e193_14, e193_15, e193_16, e193_19, e193_22, e193_23, e193_24, e193_25, e193_26, e193_27, e193_30, e193_31, e193_32, e193_33, e193_34, e193_35, e193_38, e193_41, e193_44, e193_45, e193_46, e193_49, e193_50, e193_51, e193_54, e193_55, e193_57, e193_60, e193_62, e193_63, e193_64, e193_67, e193_68, e193_69, e193_70, e193_73, e193_74, e193_76, e193_79, e193_80, e193_81, e193_84, e193_87, e193_90, e193_93, e193_95, e193_96, e193_97, e193_100, e193_102, e193_103, e193_104, e193_105, e193_106, e193_107, e193_110, e193_111, e193_112, e193_115, e193_116, e193_118, e193_119, e193_121, e193_122, e193_125, e193_126, e193_127, e193_128, ↓reduceIte, gM_0, a_94, inb_n, ix_n, if_true, ne_eq, Nat.reduceEqDiff, not_false_eq_true, vM, clK_s, tl_s, tl_n, clr_i, clr_n, clr_a, nI_add, k_isSheet, hb, bI_0, Bool.true_eq_false, Bool.false_eq_true, not_true_eq_false, not_false_eq_true, if_false, reduceCtorEq, gM_4, gM_5, a_97, a_98, g2, s4, k_in, rgL_c, tL_0, tL_1, tL_2, tL_3, tL_4, tL_5, tL_6, tL_7, tL_8, tL_19, tL_30, tL_48, tL_50, tL_57, tL_60, tL_97, tL_100, tL_122, tL_200, tL_99999, tL_m1, tL_m99999, Int32.toInt_toInt64, hp2]
      | true =>
        have hp2 : rg 0 (nI n - nI 1).toInt pv = true := by rw [len_rg hn]; exact hp
        obtain ⟨iz, hi, rfl⟩ := inB_ex hp
        have c0 : su σ (70 + 2 * kz + 1) iz zv = su σ (70 + 2 * kz + 1) iz zv := rfl
        have hfin : ∀ wv : Int32, (wv = (-1000000005) ∨ rg (-99999) 99999 wv = true) → (Rn E (d + 50) 84 0 [some (.ref 0), some (.int (nI kz)), some (.int (nI iz)), some (.int zv), none, none] [] (shp, σ) = some (some (.int (nI 1)), (shp, su σ (70 + 2 * kz + 1) iz wv))) → (∀ σ1 : Nat → Nat → Int32, σ1 97 kz = σ 97 kz → σ1 98 kz = nI n → Rn E (d + 50) 193 0 [some (.ref 93), some (.int (nI kz)), some (.int (nI iz)), some (.int zv)] [] (shp, σ1) = some (some (.int (nI 1)), (shp, su σ1 99 (24 * kz + iz) wv))) → OK2 σ (Rn E (d + 50) 84 0 [some (.ref 0), some (.int (nI kz)), some (.int (nI iz)), some (.int zv), none, none] []) (Rn E (d + 50) 193 0 [some (.ref 93), some (.int (nI kz)), some (.int (nI iz)), some (.int zv)] []) := by
          intro wv hw g1 g2
          refine ⟨nI 1, su σ (70 + 2 * kz + 1) iz wv, su (su σ (70 + 2 * kz + 1) iz wv) 99 (24 * kz + iz) wv, A, B, im, g1, g2 _ (by rw [su_row (by omega)]) (by rw [su_row (by omega)]; exact s4), hI.s (fun a h1 h2 h3 h4 _ => by rw [su_row h4, su_row (by omega)]) (RLs_put hS hk (by omega) hw)⟩
        by_cases hs0 : σ 97 kz = nI 0
        · have d1 : σ (70 + 2 * kz) 1 = nI 0 := by rw [s1, hs0]
          rw [d1] at hf
          have g00 : nI 0 ≤ nI 0 := by decide +kernel
          have z01 : ¬ nI 0 = nI 1 := by decide +kernel
          by_cases hz : zv = (-1000000005)
          · refine ok_read (vv := (-1000000012)) hI ?_ ?_
            · simp (disch := omega) only [e84_0, e84_1, e84_2, e84_5, e84_7, e84_9, e84_12, e84_14, e84_15, e84_16, e84_19, e84_20, e84_21, e84_23, e84_24, e84_25, e84_27, e84_30, e84_31, e84_32, e84_35, e84_38, e84_40, e84_41, e84_43, e84_46, e84_49, e84_50, e84_52, e84_55, e84_57, e84_58, e84_60, e84_63, e84_64, e84_65, e84_66, e84_67, e84_68, e84_69, e84_70, e84_72, e84_75, e84_76, e84_78, e84_80, e84_83, e84_86, e84_88, e84_89, e84_91, e84_94, e84_95, e84_96, e84_97, e84_98, ↓reduceIte, inb_n, ix_n, if_true, ne_eq, Nat.reduceEqDiff, not_false_eq_true, clK_s, tl_s, tl_n, clr_i, clr_n, clr_a, nI_add, vX, c_sf hk, hf, gX_5, q_66, gH_1 (isH_n hk), gH_2 (isH_n hk), c2, c_isWithin, tI_0, tI_1, tI_2, tI_3, tI_4, tI_5, tI_6, tI_7, tI_8, tI_19, tI_20, tI_23, tI_24, tI_29, tI_30, tI_48, tI_50, tI_57, tI_60, tI_97, tI_100, tI_122, tI_200, tI_99999, tI_m1, tI_m99999, hp2, bI_0, Bool.true_eq_false, Bool.false_eq_true, not_true_eq_false, not_false_eq_true, if_false, reduceCtorEq, d1, hz]
            · simp (disch := omega) only [e193_0, e193_1, e193_4, e193_7, e193_9, e193_10, e193_11, e193_14, e193_15, e193_16, e193_19, e193_22, e193_23, e193_24, e193_25, e193_26, e193_27, e193_30, e193_31, e193_32, e193_33, e193_34, e193_35, e193_38, e193_41, e193_44, e193_45, e193_46, e193_49, e193_50, e193_51, e193_54, e193_55, e193_57, e193_60, e193_62, e193_63, e193_64, e193_67, e193_68, e193_69, e193_70, e193_73, e193_74, e193_76, e193_79, e193_80, e193_81, e193_84, e193_87, e193_90, e193_93, e193_95, e193_96, e193_97, e193_100, e193_102, e193_103, e193_104, e193_105, e193_106, e193_107, e193_110, e193_111, e193_112, e193_115, e193_116, e193_118, e193_119, e193_121, e193_122, e193_125, e193_126, e193_127, e193_128, ↓reduceIte, gM_0, a_94, inb_n, ix_n, if_true, ne_eq, Nat.reduceEqDiff, not_false_eq_true, vM, clK_s, tl_s, tl_n, clr_i, clr_n, clr_a, nI_add, k_isSheet, hb, bI_0, Bool.true_eq_false, Bool.false_eq_true, not_true_eq_false, not_false_eq_true, if_false, reduceCtorEq, gM_4, gM_5, a_97, a_98, g00, s4, k_in, rgL_c, tL_0, tL_1, tL_2, tL_3, tL_4, tL_5, tL_6, tL_7, tL_8, tL_19, tL_30, tL_48, tL_50, tL_57, tL_60, tL_97, tL_100, tL_122, tL_200, tL_99999, tL_m1, tL_m99999, Int32.toInt_toInt64, hp2, hs0, hz]
          · refine hfin zv.toInt16.toInt32 (Or.inr (i2s_rg zv)) ?_ ?_
            · simp (disch := omega) only [e84_0, e84_1, e84_2, e84_5, e84_7, e84_9, e84_12, e84_14, e84_15, e84_16, e84_19, e84_20, e84_21, e84_23, e84_24, e84_25, e84_27, e84_30, e84_31, e84_32, e84_35, e84_38, e84_40, e84_41, e84_43, e84_46, e84_49, e84_50, e84_52, e84_55, e84_57, e84_58, e84_60, e84_63, e84_64, e84_65, e84_66, e84_67, e84_68, e84_69, e84_70, e84_72, e84_75, e84_76, e84_78, e84_80, e84_83, e84_86, e84_88, e84_89, e84_91, e84_94, e84_95, e84_96, e84_97, e84_98, ↓reduceIte, inb_n, ix_n, if_true, ne_eq, Nat.reduceEqDiff, not_false_eq_true, clK_s, tl_s, tl_n, clr_i, clr_n, clr_a, nI_add, vX, c_sf hk, hf, gX_5, q_66, gH_1 (isH_n hk), gH_2 (isH_n hk), gH_0 (isH_n hk), sH_1 (isH_n hk), c2, c_isWithin, tI_0, tI_1, tI_2, tI_3, tI_4, tI_5, tI_6, tI_7, tI_8, tI_19, tI_20, tI_23, tI_24, tI_29, tI_30, tI_48, tI_50, tI_57, tI_60, tI_97, tI_100, tI_122, tI_200, tI_99999, tI_m1, tI_m99999, hp2, bI_0, Bool.true_eq_false, Bool.false_eq_true, not_true_eq_false, not_false_eq_true, if_false, reduceCtorEq, d1, hz]
            · intro σ1 e1 e2
              have g2' : nI 0 ≤ nI 0 := by decide +kernel
              rw [hs0] at e1
              simp (disch := omega) only [e193_0, e193_1, e193_4, e193_7, e193_9, e193_10, e193_11, e193_14, e193_15, e193_16, e193_19, e193_22, e193_23, e193_24, e193_25, e193_26, e193_27, e193_30, e193_31, e193_32, e193_33, e193_34, e193_35, e193_38, e193_41, e193_44, e193_45, e193_46, e193_49, e193_50, e193_51, e193_54, e193_55, e193_57, e193_60, e193_62, e193_63, e193_64, e193_67, e193_68, e193_69, e193_70, e193_73, e193_74, e193_76, e193_79, e193_80, e193_81, e193_84, e193_87, e193_90, e193_93, e193_95, e193_96, e193_97, e193_100, e193_102, e193_103, e193_104, e193_105, e193_106, e193_107, e193_110, e193_111, e193_112, e193_115, e193_116, e193_118, e193_119, e193_121, e193_122, e193_125, e193_126, e193_127, e193_128, ↓reduceIte, gM_0, a_94, inb_n, ix_n, if_true, ne_eq, Nat.reduceEqDiff, not_false_eq_true, vM, clK_s, tl_s, tl_n, clr_i, clr_n, clr_a, nI_add, k_isSheet, hb, bI_0, Bool.true_eq_false, Bool.false_eq_true, not_true_eq_false, not_false_eq_true, if_false, reduceCtorEq, gM_4, gM_5, gM_6, a_97, a_98, s_99, e1, g2', e2, k_in, rgL_c, tL_0, tL_1, tL_2, tL_3, tL_4, tL_5, tL_6, tL_7, tL_8, tL_19, tL_30, tL_48, tL_50, tL_57, tL_60, tL_97, tL_100, tL_122, tL_200, tL_99999, tL_m1, tL_m99999, Int32.toInt_toInt64, hp2, hz, z01, pk_mul, i2s_sh]
        · have hs1 : σ 97 kz = nI 1 := by
            rcases s3 with h | h | h
            · exact absurd h hm
            · exact absurd h hs0
            · exact h
          have d1 : σ (70 + 2 * kz) 1 = nI 1 := by rw [s1, hs1]
          rw [d1] at hf
          have g2' : nI 0 ≤ nI 1 := by decide +kernel
          by_cases hz : zv = (-1000000005)
          · refine hfin zv (Or.inl hz) ?_ ?_
            · simp (disch := omega) only [e84_0, e84_1, e84_2, e84_5, e84_7, e84_9, e84_12, e84_14, e84_15, e84_16, e84_19, e84_20, e84_21, e84_23, e84_24, e84_25, e84_27, e84_30, e84_31, e84_32, e84_35, e84_38, e84_40, e84_41, e84_43, e84_46, e84_49, e84_50, e84_52, e84_55, e84_57, e84_58, e84_60, e84_63, e84_64, e84_65, e84_66, e84_67, e84_68, e84_69, e84_70, e84_72, e84_75, e84_76, e84_78, e84_80, e84_83, e84_86, e84_88, e84_89, e84_91, e84_94, e84_95, e84_96, e84_97, e84_98, ↓reduceIte, inb_n, ix_n, if_true, ne_eq, Nat.reduceEqDiff, not_false_eq_true, clK_s, tl_s, tl_n, clr_i, clr_n, clr_a, nI_add, vX, c_sf hk, hf, gX_5, q_66, gH_1 (isH_n hk), gH_2 (isH_n hk), gH_0 (isH_n hk), sH_1 (isH_n hk), c2, c_isWithin, tI_0, tI_1, tI_2, tI_3, tI_4, tI_5, tI_6, tI_7, tI_8, tI_19, tI_20, tI_23, tI_24, tI_29, tI_30, tI_48, tI_50, tI_57, tI_60, tI_97, tI_100, tI_122, tI_200, tI_99999, tI_m1, tI_m99999, hp2, bI_0, Bool.true_eq_false, Bool.false_eq_true, not_true_eq_false, not_false_eq_true, if_false, reduceCtorEq, d1, n10, hz]
            · intro σ1 e1 e2
              rw [hs1] at e1
              simp (disch := omega) only [e193_0, e193_1, e193_4, e193_7, e193_9, e193_10, e193_11, e193_14, e193_15, e193_16, e193_19, e193_22, e193_23, e193_24, e193_25, e193_26, e193_27, e193_30, e193_31, e193_32, e193_33, e193_34, e193_35, e193_38, e193_41, e193_44, e193_45, e193_46, e193_49, e193_50, e193_51, e193_54, e193_55, e193_57, e193_60, e193_62, e193_63, e193_64, e193_67, e193_68, e193_69, e193_70, e193_73, e193_74, e193_76, e193_79, e193_80, e193_81, e193_84, e193_87, e193_90, e193_93, e193_95, e193_96, e193_97, e193_100, e193_102, e193_103, e193_104, e193_105, e193_106, e193_107, e193_110, e193_111, e193_112, e193_115, e193_116, e193_118, e193_119, e193_121, e193_122, e193_125, e193_126, e193_127, e193_128, ↓reduceIte, gM_0, a_94, inb_n, ix_n, if_true, ne_eq, Nat.reduceEqDiff, not_false_eq_true, vM, clK_s, tl_s, tl_n, clr_i, clr_n, clr_a, nI_add, k_isSheet, hb, bI_0, Bool.true_eq_false, Bool.false_eq_true, not_true_eq_false, not_false_eq_true, if_false, reduceCtorEq, gM_4, gM_5, gM_6, a_97, a_98, s_99, e1, g2', e2, k_in, rgL_c, tL_0, tL_1, tL_2, tL_3, tL_4, tL_5, tL_6, tL_7, tL_8, tL_19, tL_30, tL_48, tL_50, tL_57, tL_60, tL_97, tL_100, tL_122, tL_200, tL_99999, tL_m1, tL_m99999, Int32.toInt_toInt64, hp2, n10, hz, pk_mul]
          · cases hr : rg (-99999) 99999 zv with
            | false =>
              refine ok_read (vv := (-1000000001)) hI ?_ ?_
              · simp (disch := omega) only [e84_0, e84_1, e84_2, e84_5, e84_7, e84_9, e84_12, e84_14, e84_15, e84_16, e84_19, e84_20, e84_21, e84_23, e84_24, e84_25, e84_27, e84_30, e84_31, e84_32, e84_35, e84_38, e84_40, e84_41, e84_43, e84_46, e84_49, e84_50, e84_52, e84_55, e84_57, e84_58, e84_60, e84_63, e84_64, e84_65, e84_66, e84_67, e84_68, e84_69, e84_70, e84_72, e84_75, e84_76, e84_78, e84_80, e84_83, e84_86, e84_88, e84_89, e84_91, e84_94, e84_95, e84_96, e84_97, e84_98, ↓reduceIte, inb_n, ix_n, if_true, ne_eq, Nat.reduceEqDiff, not_false_eq_true, clK_s, tl_s, tl_n, clr_i, clr_n, clr_a, nI_add, vX, c_sf hk, hf, gX_5, q_66, gH_1 (isH_n hk), gH_2 (isH_n hk), c2, c_isWithin, tI_0, tI_1, tI_2, tI_3, tI_4, tI_5, tI_6, tI_7, tI_8, tI_19, tI_20, tI_23, tI_24, tI_29, tI_30, tI_48, tI_50, tI_57, tI_60, tI_97, tI_100, tI_122, tI_200, tI_99999, tI_m1, tI_m99999, hp2, bI_0, Bool.true_eq_false, Bool.false_eq_true, not_true_eq_false, not_false_eq_true, if_false, reduceCtorEq, d1, n10, hz, hr]
              · simp (disch := omega) only [e193_0, e193_1, e193_4, e193_7, e193_9, e193_10, e193_11, e193_14, e193_15, e193_16, e193_19, e193_22, e193_23, e193_24, e193_25, e193_26, e193_27, e193_30, e193_31, e193_32, e193_33, e193_34, e193_35, e193_38, e193_41, e193_44, e193_45, e193_46, e193_49, e193_50, e193_51, e193_54, e193_55, e193_57, e193_60, e193_62, e193_63, e193_64, e193_67, e193_68, e193_69, e193_70, e193_73, e193_74, e193_76, e193_79, e193_80, e193_81, e193_84, e193_87, e193_90, e193_93, e193_95, e193_96, e193_97, e193_100, e193_102, e193_103, e193_104, e193_105, e193_106, e193_107, e193_110, e193_111, e193_112, e193_115, e193_116, e193_118, e193_119, e193_121, e193_122, e193_125, e193_126, e193_127, e193_128, ↓reduceIte, gM_0, a_94, inb_n, ix_n, if_true, ne_eq, Nat.reduceEqDiff, not_false_eq_true, vM, clK_s, tl_s, tl_n, clr_i, clr_n, clr_a, nI_add, k_isSheet, hb, bI_0, Bool.true_eq_false, Bool.false_eq_true, not_true_eq_false, not_false_eq_true, if_false, reduceCtorEq, gM_4, gM_5, a_97, a_98, s4, k_in, rgL_c, tL_0, tL_1, tL_2, tL_3, tL_4, tL_5, tL_6, tL_7, tL_8, tL_19, tL_30, tL_48, tL_50, tL_57, tL_60, tL_97, tL_100, tL_122, tL_200, tL_99999, tL_m1, tL_m99999, Int32.toInt_toInt64, hp2, hs1, g2', n10, hz, hr]
            | true =>
              refine hfin zv (Or.inr hr) ?_ ?_
              · simp (disch := omega) only [e84_0, e84_1, e84_2, e84_5, e84_7, e84_9, e84_12, e84_14, e84_15, e84_16, e84_19, e84_20, e84_21, e84_23, e84_24, e84_25, e84_27, e84_30, e84_31, e84_32, e84_35, e84_38, e84_40, e84_41, e84_43, e84_46, e84_49, e84_50, e84_52, e84_55, e84_57, e84_58, e84_60, e84_63, e84_64, e84_65, e84_66, e84_67, e84_68, e84_69, e84_70, e84_72, e84_75, e84_76, e84_78, e84_80, e84_83, e84_86, e84_88, e84_89, e84_91, e84_94, e84_95, e84_96, e84_97, e84_98, ↓reduceIte, inb_n, ix_n, if_true, ne_eq, Nat.reduceEqDiff, not_false_eq_true, clK_s, tl_s, tl_n, clr_i, clr_n, clr_a, nI_add, vX, c_sf hk, hf, gX_5, q_66, gH_1 (isH_n hk), gH_2 (isH_n hk), gH_0 (isH_n hk), sH_1 (isH_n hk), c2, c_isWithin, tI_0, tI_1, tI_2, tI_3, tI_4, tI_5, tI_6, tI_7, tI_8, tI_19, tI_20, tI_23, tI_24, tI_29, tI_30, tI_48, tI_50, tI_57, tI_60, tI_97, tI_100, tI_122, tI_200, tI_99999, tI_m1, tI_m99999, hp2, bI_0, Bool.true_eq_false, Bool.false_eq_true, not_true_eq_false, not_false_eq_true, if_false, reduceCtorEq, d1, n10, hz, hr]
              · intro σ1 e1 e2
                rw [hs1] at e1
                simp (disch := omega) only [e193_0, e193_1, e193_4, e193_7, e193_9, e193_10, e193_11, e193_14, e193_15, e193_16, e193_19, e193_22, e193_23, e193_24, e193_25, e193_26, e193_27, e193_30, e193_31, e193_32, e193_33, e193_34, e193_35, e193_38, e193_41, e193_44, e193_45, e193_46, e193_49, e193_50, e193_51, e193_54, e193_55, e193_57, e193_60, e193_62, e193_63, e193_64, e193_67, e193_68, e193_69, e193_70, e193_73, e193_74, e193_76, e193_79, e193_80, e193_81, e193_84, e193_87, e193_90, e193_93, e193_95, e193_96, e193_97, e193_100, e193_102, e193_103, e193_104, e193_105, e193_106, e193_107, e193_110, e193_111, e193_112, e193_115, e193_116, e193_118, e193_119, e193_121, e193_122, e193_125, e193_126, e193_127, e193_128, ↓reduceIte, gM_0, a_94, inb_n, ix_n, if_true, ne_eq, Nat.reduceEqDiff, not_false_eq_true, vM, clK_s, tl_s, tl_n, clr_i, clr_n, clr_a, nI_add, k_isSheet, hb, bI_0, Bool.true_eq_false, Bool.false_eq_true, not_true_eq_false, not_false_eq_true, if_false, reduceCtorEq, gM_4, gM_5, gM_6, a_97, a_98, s_99, e1, g2', e2, k_in, rgL_c, tL_0, tL_1, tL_2, tL_3, tL_4, tL_5, tL_6, tL_7, tL_8, tL_19, tL_30, tL_48, tL_50, tL_57, tL_60, tL_97, tL_100, tL_122, tL_200, tL_99999, tL_m1, tL_m99999, Int32.toInt_toInt64, hp2, n10, hz, hr, pk_mul]
/-- reading a row -/
def rdF (c : Nat → Int32) (A : Tn) : Nat → Nat → Option Nat
  | 0, _ => none
  | r + 1, iz => if ¬ c iz = (-1000000005) ∧ ¬ (iz < tN A ∧ c iz = tF A iz 1) then some iz else rdF c A r (iz + 1)
theorem c_reads_l {kz n : Nat} {c : Nat → Int32} {w1 w2 : Option Value} (hk : kz < 4) (hn : n ≤ 24) (hC : CR σ 36 A) (h8 : tN A ≤ 8) (e2 : σ (70 + 2 * kz) 2 = nI n) (ec : ∀ i, i < 24 → σ (70 + 2 * kz + 1) i = c i) : ∀ r iz (w5 : Option Value), iz + r = n →
    Rn E d 86 22 [some (.ref 0), w1, w2, some (.ref (70 + 2 * kz)), some (.int (nI iz)), w5] [] (shp, σ) = some (some (.int (oM (rdF c A r iz))), (shp, σ)) := by
  have e0 := hC.1
  intro r
  induction r with
  | zero =>
    intro iz w5 hi
    have h1 : n ≤ iz := by omega
    simp (disch := omega) only [e86_22, e86_24, e86_25, e86_28, e86_31, e86_33, e86_34, e86_37, e86_40, e86_43, e86_44, e86_47, e86_49, e86_50, e86_51, e86_54, e86_57, e86_59, e86_60, e86_63, e86_64, e86_67, e86_68, e86_70, e86_71, e86_74, e86_76, e86_77, e86_79, e86_82, e86_84, e86_87, e86_89, e86_90, e86_93, e86_96, e86_98, ↓reduceIte, inb_n, ix_n, if_true, ne_eq, Nat.reduceEqDiff, not_false_eq_true, clK_s, tl_s, tl_n, clr_i, clr_n, clr_a, nI_add, gH_2 (isH_n hk), e2, nI_leI, h1, rdF, oM]
  | succ r ih =>
    intro iz w5 hi
    have h1 : ¬ n ≤ iz := by omega
    have q := ec iz (by omega)
    rw [e86_22]
    unfold rdF
    by_cases hin : iz < tN A
    · have h2 : ¬ tN A ≤ iz := by omega
      have p1 := hC.k1 hin
      by_cases he : c iz = tF A iz 1
      · rw [if_neg (fun z => z.2 ⟨hin, he⟩), ← ih (iz + 1) (some (.int (nI 1))) (by omega)]
        by_cases hz : c iz = (-1000000005)
        · have hz2 : tF A iz 1 = (-1000000005) := by rw [← he, hz]
          simp (disch := omega) only [e86_0, e86_1, e86_2, e86_5, e86_6, e86_7, e86_10, e86_11, e86_12, e86_13, e86_16, e86_17, e86_18, e86_19, e86_20, e86_24, e86_25, e86_28, e86_31, e86_33, e86_34, e86_37, e86_40, e86_43, e86_44, e86_47, e86_49, e86_50, e86_51, e86_54, e86_57, e86_59, e86_60, e86_63, e86_64, e86_67, e86_68, e86_70, e86_71, e86_74, e86_76, e86_77, e86_79, e86_82, e86_84, e86_87, e86_89, e86_90, e86_93, e86_96, e86_98, ↓reduceIte, inb_n, ix_n, if_true, ne_eq, Nat.reduceEqDiff, not_false_eq_true, clK_s, tl_s, tl_n, clr_i, clr_n, clr_a, nI_add, gX_2, gT_0 t36, gT_1 t36, gT_2 t36, gT_3 t36, gT_4 t36, gT_5 t36, gT_6 t36, gT_7 t36, gT_8 t36, gT_9 t36, gT_10 t36, gT_11 t36, gT_12 t36, gT_13 t36, gT_14 t36, gT_15 t36, gT_16 t36, gT_17 t36, pT_10 t36, pT_11 t36, pT_12 t36, pT_13 t36, pT_14 t36, pT_15 t36, pT_16 t36, pT_17 t36, aT_1 t36, aT_2 t36, aT_3 t36, aT_4 t36, aT_5 t36, aT_6 t36, aT_7 t36, aT_8 t36, aT_9 t36, sT_1 t36, sT_2 t36, sT_3 t36, sT_4 t36, sT_5 t36, sT_6 t36, sT_7 t36, sT_8 t36, sT_9 t36, vT t36, gH_2 (isH_n hk), gH_0 (isH_n hk), aH_1 (isH_n hk), e2, e0, nI_leI, h1, h2, q, p1, he, hz2, not_true_eq_false]
        · have hz2 : ¬ tF A iz 1 = (-1000000005) := by rw [← he]; exact hz
          simp (disch := omega) only [e86_0, e86_1, e86_2, e86_5, e86_6, e86_7, e86_10, e86_11, e86_12, e86_13, e86_16, e86_17, e86_18, e86_19, e86_20, e86_24, e86_25, e86_28, e86_31, e86_33, e86_34, e86_37, e86_40, e86_43, e86_44, e86_47, e86_49, e86_50, e86_51, e86_54, e86_57, e86_59, e86_60, e86_63, e86_64, e86_67, e86_68, e86_70, e86_71, e86_74, e86_76, e86_77, e86_79, e86_82, e86_84, e86_87, e86_89, e86_90, e86_93, e86_96, e86_98, ↓reduceIte, inb_n, ix_n, if_true, ne_eq, Nat.reduceEqDiff, not_false_eq_true, clK_s, tl_s, tl_n, clr_i, clr_n, clr_a, nI_add, gX_2, gT_0 t36, gT_1 t36, gT_2 t36, gT_3 t36, gT_4 t36, gT_5 t36, gT_6 t36, gT_7 t36, gT_8 t36, gT_9 t36, gT_10 t36, gT_11 t36, gT_12 t36, gT_13 t36, gT_14 t36, gT_15 t36, gT_16 t36, gT_17 t36, pT_10 t36, pT_11 t36, pT_12 t36, pT_13 t36, pT_14 t36, pT_15 t36, pT_16 t36, pT_17 t36, aT_1 t36, aT_2 t36, aT_3 t36, aT_4 t36, aT_5 t36, aT_6 t36, aT_7 t36, aT_8 t36, aT_9 t36, sT_1 t36, sT_2 t36, sT_3 t36, sT_4 t36, sT_5 t36, sT_6 t36, sT_7 t36, sT_8 t36, sT_9 t36, vT t36, gH_2 (isH_n hk), gH_0 (isH_n hk), aH_1 (isH_n hk), e2, e0, nI_leI, h1, h2, q, p1, he, hz2, not_true_eq_false, n10]
      · by_cases hz : c iz = (-1000000005)
        · rw [if_neg (fun z => z.1 hz), ← ih (iz + 1) (some (.int (nI 0))) (by omega)]
          rw [hz] at he q
          simp (disch := omega) only [e86_0, e86_1, e86_2, e86_5, e86_6, e86_7, e86_10, e86_11, e86_12, e86_13, e86_16, e86_17, e86_18, e86_19, e86_20, e86_24, e86_25, e86_28, e86_31, e86_33, e86_34, e86_37, e86_40, e86_43, e86_44, e86_47, e86_49, e86_50, e86_51, e86_54, e86_57, e86_59, e86_60, e86_63, e86_64, e86_67, e86_68, e86_70, e86_71, e86_74, e86_76, e86_77, e86_79, e86_82, e86_84, e86_87, e86_89, e86_90, e86_93, e86_96, e86_98, ↓reduceIte, inb_n, ix_n, if_true, ne_eq, Nat.reduceEqDiff, not_false_eq_true, clK_s, tl_s, tl_n, clr_i, clr_n, clr_a, nI_add, gX_2, gT_0 t36, gT_1 t36, gT_2 t36, gT_3 t36, gT_4 t36, gT_5 t36, gT_6 t36, gT_7 t36, gT_8 t36, gT_9 t36, gT_10 t36, gT_11 t36, gT_12 t36, gT_13 t36, gT_14 t36, gT_15 t36, gT_16 t36, gT_17 t36, pT_10 t36, pT_11 t36, pT_12 t36, pT_13 t36, pT_14 t36, pT_15 t36, pT_16 t36, pT_17 t36, aT_1 t36, aT_2 t36, aT_3 t36, aT_4 t36, aT_5 t36, aT_6 t36, aT_7 t36, aT_8 t36, aT_9 t36, sT_1 t36, sT_2 t36, sT_3 t36, sT_4 t36, sT_5 t36, sT_6 t36, sT_7 t36, sT_8 t36, sT_9 t36, vT t36, gH_2 (isH_n hk), gH_0 (isH_n hk), aH_1 (isH_n hk), e2, e0, nI_leI, h1, h2, q, p1, he]
        · rw [if_pos ⟨hz, fun z => he z.2⟩]
          simp (disch := omega) only [e86_0, e86_1, e86_2, e86_5, e86_6, e86_7, e86_10, e86_11, e86_12, e86_13, e86_16, e86_17, e86_18, e86_19, e86_20, e86_24, e86_25, e86_28, e86_31, e86_33, e86_34, e86_37, e86_40, e86_43, e86_44, e86_47, e86_49, e86_50, e86_51, e86_54, e86_57, e86_59, e86_60, e86_63, e86_64, e86_67, e86_68, e86_70, e86_71, e86_74, e86_76, e86_77, e86_79, e86_82, e86_84, e86_87, e86_89, e86_90, e86_93, e86_96, e86_98, ↓reduceIte, inb_n, ix_n, if_true, ne_eq, Nat.reduceEqDiff, not_false_eq_true, clK_s, tl_s, tl_n, clr_i, clr_n, clr_a, nI_add, gX_2, gT_0 t36, gT_1 t36, gT_2 t36, gT_3 t36, gT_4 t36, gT_5 t36, gT_6 t36, gT_7 t36, gT_8 t36, gT_9 t36, gT_10 t36, gT_11 t36, gT_12 t36, gT_13 t36, gT_14 t36, gT_15 t36, gT_16 t36, gT_17 t36, pT_10 t36, pT_11 t36, pT_12 t36, pT_13 t36, pT_14 t36, pT_15 t36, pT_16 t36, pT_17 t36, aT_1 t36, aT_2 t36, aT_3 t36, aT_4 t36, aT_5 t36, aT_6 t36, aT_7 t36, aT_8 t36, aT_9 t36, sT_1 t36, sT_2 t36, sT_3 t36, sT_4 t36, sT_5 t36, sT_6 t36, sT_7 t36, sT_8 t36, sT_9 t36, vT t36, gH_2 (isH_n hk), gH_0 (isH_n hk), aH_1 (isH_n hk), e2, e0, nI_leI, h1, h2, q, p1, he, hz, not_true_eq_false, oM]
    · have h2 : tN A ≤ iz := by omega
      by_cases hz : c iz = (-1000000005)
      · rw [if_neg (fun z => z.1 hz), ← ih (iz + 1) (some (.int (nI 0))) (by omega)]
        rw [hz] at q
        simp (disch := omega) only [e86_0, e86_1, e86_2, e86_5, e86_6, e86_7, e86_10, e86_11, e86_12, e86_13, e86_16, e86_17, e86_18, e86_19, e86_20, e86_24, e86_25, e86_28, e86_31, e86_33, e86_34, e86_37, e86_40, e86_43, e86_44, e86_47, e86_49, e86_50, e86_51, e86_54, e86_57, e86_59, e86_60, e86_63, e86_64, e86_67, e86_68, e86_70, e86_71, e86_74, e86_76, e86_77, e86_79, e86_82, e86_84, e86_87, e86_89, e86_90, e86_93, e86_96, e86_98, ↓reduceIte, inb_n, ix_n, if_true, ne_eq, Nat.reduceEqDiff, not_false_eq_true, clK_s, tl_s, tl_n, clr_i, clr_n, clr_a, nI_add, gX_2, gT_0 t36, gT_1 t36, gT_2 t36, gT_3 t36, gT_4 t36, gT_5 t36, gT_6 t36, gT_7 t36, gT_8 t36, gT_9 t36, gT_10 t36, gT_11 t36, gT_12 t36, gT_13 t36, gT_14 t36, gT_15 t36, gT_16 t36, gT_17 t36, pT_10 t36, pT_11 t36, pT_12 t36, pT_13 t36, pT_14 t36, pT_15 t36, pT_16 t36, pT_17 t36, aT_1 t36, aT_2 t36, aT_3 t36, aT_4 t36, aT_5 t36, aT_6 t36, aT_7 t36, aT_8 t36, aT_9 t36, sT_1 t36, sT_2 t36, sT_3 t36, sT_4 t36, sT_5 t36, sT_6 t36, sT_7 t36, sT_8 t36, sT_9 t36, vT t36, gH_2 (isH_n hk), gH_0 (isH_n hk), aH_1 (isH_n hk), e2, e0, nI_leI, h1, h2, q]
      · rw [if_pos ⟨hz, fun z => hin z.1⟩]
        simp (disch := omega) only [e86_0, e86_1, e86_2, e86_5, e86_6, e86_7, e86_10, e86_11, e86_12, e86_13, e86_16, e86_17, e86_18, e86_19, e86_20, e86_24, e86_25, e86_28, e86_31, e86_33, e86_34, e86_37, e86_40, e86_43, e86_44, e86_47, e86_49, e86_50, e86_51, e86_54, e86_57, e86_59, e86_60, e86_63, e86_64, e86_67, e86_68, e86_70, e86_71, e86_74, e86_76, e86_77, e86_79, e86_82, e86_84, e86_87, e86_89, e86_90, e86_93, e86_96, e86_98, ↓reduceIte, inb_n, ix_n, if_true, ne_eq, Nat.reduceEqDiff, not_false_eq_true, clK_s, tl_s, tl_n, clr_i, clr_n, clr_a, nI_add, gX_2, gT_0 t36, gT_1 t36, gT_2 t36, gT_3 t36, gT_4 t36, gT_5 t36, gT_6 t36, gT_7 t36, gT_8 t36, gT_9 t36, gT_10 t36, gT_11 t36, gT_12 t36, gT_13 t36, gT_14 t36, gT_15 t36, gT_16 t36, gT_17 t36, pT_10 t36, pT_11 t36, pT_12 t36, pT_13 t36, pT_14 t36, pT_15 t36, pT_16 t36, pT_17 t36, aT_1 t36, aT_2 t36, aT_3 t36, aT_4 t36, aT_5 t36, aT_6 t36, aT_7 t36, aT_8 t36, aT_9 t36, sT_1 t36, sT_2 t36, sT_3 t36, sT_4 t36, sT_5 t36, sT_6 t36, sT_7 t36, sT_8 t36, sT_9 t36, vT t36, gH_2 (isH_n hk), gH_0 (isH_n hk), aH_1 (isH_n hk), e2, e0, nI_leI, h1, h2, q, hz, not_true_eq_false, oM]
theorem k_reads_l {kz n : Nat} {c : Nat → Int32} (hk : kz < 4) (hn : n ≤ 24) (hM : MR (σ 94) A) (h8 : tN A ≤ 8) (e2 : σ 98 kz = nI n) (ec : ∀ i, i < 24 → σ 99 (24 * kz + i) = c i) : ∀ r iz (w3 : Option Value), iz + r = n →
    Rn E (d + 1) 195 25 [some (.ref 93), some (.int (nI kz)), some (.int (nI iz)), w3] [] (shp, σ) = some (some (.int (oM (rdF c A r iz))), (shp, σ)) := by
  have e0 := hM.1
  intro r
  induction r with
  | zero =>
    intro iz w3 hi
    have h1 : n ≤ iz := by omega
    simp (disch := omega) only [e195_25, e195_26, e195_27, e195_30, e195_31, e195_32, e195_35, e195_36, e195_39, e195_41, e195_42, e195_43, e195_44, e195_45, e195_46, e195_47, e195_48, e195_50, e195_53, e195_54, e195_55, e195_58, e195_59, e195_60, e195_63, e195_64, e195_65, e195_66, e195_67, e195_70, e195_73, e195_74, e195_75, e195_78, e195_81, e195_83, ↓reduceIte, gM_0, a_94, inb_n, ix_n, if_true, ne_eq, Nat.reduceEqDiff, not_false_eq_true, vM, clK_s, tl_s, tl_n, clr_i, clr_n, clr_a, nI_add, gM_5, a_98, e2, nI_leI, h1, rdF, oM]
  | succ r ih =>
    intro iz w3 hi
    have h1 : ¬ n ≤ iz := by omega
    have q := ec iz (by omega)
    rw [e195_25]
    unfold rdF
    by_cases hz : c iz = (-1000000005)
    · rw [if_neg (fun z => z.1 hz), ← ih (iz + 1) (some (.int (-1000000005))) (by omega)]
      rw [hz] at q
      simp (disch := omega) only [e195_0, e195_1, e195_4, e195_7, e195_9, e195_10, e195_11, e195_14, e195_15, e195_16, e195_19, e195_22, e195_23, e195_24, e195_26, e195_27, e195_30, e195_31, e195_32, e195_35, e195_36, e195_39, e195_41, e195_42, e195_43, e195_44, e195_45, e195_46, e195_47, e195_48, e195_50, e195_53, e195_54, e195_55, e195_58, e195_59, e195_60, e195_63, e195_64, e195_65, e195_66, e195_67, e195_70, e195_73, e195_74, e195_75, e195_78, e195_81, e195_83, ↓reduceIte, gM_0, a_94, inb_n, ix_n, if_true, ne_eq, Nat.reduceEqDiff, not_false_eq_true, vM, clK_s, tl_s, tl_n, clr_i, clr_n, clr_a, nI_add, gM_5, gM_6, a_98, a_99, e2, nI_leI, h1, pk_mul, q]
    · by_cases hin : iz < tN A
      · have h2 : ¬ tN A ≤ iz := by omega
        have f1 := hM.2.1 iz hin 1 (by omega)
        by_cases he : c iz = tF A iz 1
        · rw [if_neg (fun z => z.2 ⟨hin, he⟩), ← ih (iz + 1) (some (.int (c iz))) (by omega)]
          rw [he] at hz
          simp (disch := omega) only [e195_0, e195_1, e195_4, e195_7, e195_9, e195_10, e195_11, e195_14, e195_15, e195_16, e195_19, e195_22, e195_23, e195_24, e195_26, e195_27, e195_30, e195_31, e195_32, e195_35, e195_36, e195_39, e195_41, e195_42, e195_43, e195_44, e195_45, e195_46, e195_47, e195_48, e195_50, e195_53, e195_54, e195_55, e195_58, e195_59, e195_60, e195_63, e195_64, e195_65, e195_66, e195_67, e195_70, e195_73, e195_74, e195_75, e195_78, e195_81, e195_83, ↓reduceIte, gM_0, a_94, inb_n, ix_n, if_true, ne_eq, Nat.reduceEqDiff, not_false_eq_true, vM, clK_s, tl_s, tl_n, clr_i, clr_n, clr_a, nI_add, gM_5, gM_6, a_98, a_99, e2, nI_leI, h1, pk_mul, q, hz, e0, h2, k_of, f1, he]
        · rw [if_pos ⟨hz, fun z => he z.2⟩]
          simp (disch := omega) only [e195_0, e195_1, e195_4, e195_7, e195_9, e195_10, e195_11, e195_14, e195_15, e195_16, e195_19, e195_22, e195_23, e195_24, e195_26, e195_27, e195_30, e195_31, e195_32, e195_35, e195_36, e195_39, e195_41, e195_42, e195_43, e195_44, e195_45, e195_46, e195_47, e195_48, e195_50, e195_53, e195_54, e195_55, e195_58, e195_59, e195_60, e195_63, e195_64, e195_65, e195_66, e195_67, e195_70, e195_73, e195_74, e195_75, e195_78, e195_81, e195_83, ↓reduceIte, gM_0, a_94, inb_n, ix_n, if_true, ne_eq, Nat.reduceEqDiff, not_false_eq_true, vM, clK_s, tl_s, tl_n, clr_i, clr_n, clr_a, nI_add, gM_5, gM_6, a_98, a_99, e2, nI_leI, h1, pk_mul, q, hz, e0, h2, k_of, f1, he, oM]
      · have h2 : tN A ≤ iz := by omega
        rw [if_pos ⟨hz, fun z => hin z.1⟩]
        simp (disch := omega) only [e195_0, e195_1, e195_4, e195_7, e195_9, e195_10, e195_11, e195_14, e195_15, e195_16, e195_19, e195_22, e195_23, e195_24, e195_26, e195_27, e195_30, e195_31, e195_32, e195_35, e195_36, e195_39, e195_41, e195_42, e195_43, e195_44, e195_45, e195_46, e195_47, e195_48, e195_50, e195_53, e195_54, e195_55, e195_58, e195_59, e195_60, e195_63, e195_64, e195_65, e195_66, e195_67, e195_70, e195_73, e195_74, e195_75, e195_78, e195_81, e195_83, ↓reduceIte, gM_0, a_94, inb_n, ix_n, if_true, ne_eq, Nat.reduceEqDiff, not_false_eq_true, vM, clK_s, tl_s, tl_n, clr_i, clr_n, clr_a, nI_add, gM_5, gM_6, a_98, a_99, e2, nI_leI, h1, pk_mul, q, hz, e0, h2, oM]
theorem op_reads {xv : Int32} (hI : INV σ A B im) : OK2 σ (Rn E (d + 50) 86 0 [some (.ref 0), some (.int xv), none, none, none, none] []) (Rn E (d + 50) 195 0 [some (.ref 93), some (.int xv), none, none] []) := by
  obtain ⟨⟨hC, hM, hW, hX, hc, hR⟩, _, hL⟩ := id hI
  have h8 := hW.1
  have hS := hL.1
  cases hb : rg 0 3 xv with
  | false =>
    have z1 : ¬ (-1000000001 : Int32) = nI 0 := by decide +kernel
    refine ok_read (vv := (-1000000001)) hI ?_ ?_
    · simp (disch := omega) only [e86_0, e86_1, e86_2, e86_5, e86_6, e86_7, e86_10, e86_11, ↓reduceIte, inb_n, ix_n, if_true, ne_eq, Nat.reduceEqDiff, not_false_eq_true, clK_s, tl_s, tl_n, clr_i, clr_n, clr_a, nI_add, vX, c_sfBad hb, z1]
    · simp (disch := omega) only [e195_0, e195_1, e195_4, e195_7, e195_9, e195_10, e195_11, e195_14, e195_15, e195_16, e195_19, e195_22, ↓reduceIte, gM_0, a_94, inb_n, ix_n, if_true, ne_eq, Nat.reduceEqDiff, not_false_eq_true, vM, clK_s, tl_s, tl_n, clr_i, clr_n, clr_a, nI_add, k_isSheet, hb, bI_0, Bool.true_eq_false, Bool.false_eq_true, not_true_eq_false, not_false_eq_true, if_false, reduceCtorEq]
  | true =>
    obtain ⟨kz, hk, rfl⟩ := rg_e (n := 3) rfl hb
    have hk : kz < 4 := by omega
    obtain ⟨s1, s2, s3, ⟨n, hn, s4⟩, s5⟩ := hS kz hk
    obtain ⟨sn1, sn2⟩ := sort_neg s3
    have c2 : σ (70 + 2 * kz) 2 = nI n := by rw [s2, s4]
    by_cases hm : σ 97 kz = (-1)
    · have z1 : ¬ (-1000000011 : Int32) = nI 0 := by decide +kernel
      have hf : sfV (σ (70 + 2 * kz) 1) = (-1000000011) := by unfold sfV; rw [s1, if_pos hm]
      have g2 : ¬ nI 0 ≤ σ 97 kz := fun z => sn2.mp z hm
      refine ok_read (vv := (-1000000011)) hI ?_ ?_
      · simp (disch := omega) only [e86_0, e86_1, e86_2, e86_5, e86_6, e86_7, e86_10, e86_11, ↓reduceIte, inb_n, ix_n, if_true, ne_eq, Nat.reduceEqDiff, not_false_eq_true, clK_s, tl_s, tl_n, clr_i, clr_n, clr_a, nI_add, vX, c_sf hk, hf, z1]
      · simp (disch := omega) only [e195_0, e195_1, e195_4, e195_7, e195_9, e195_10, e195_11, e195_14, e195_15, e195_16, e195_19, e195_22, ↓reduceIte, gM_0, a_94, inb_n, ix_n, if_true, ne_eq, Nat.reduceEqDiff, not_false_eq_true, vM, clK_s, tl_s, tl_n, clr_i, clr_n, clr_a, nI_add, k_isSheet, hb, bI_0, Bool.true_eq_false, Bool.false_eq_true, not_true_eq_false, not_false_eq_true, if_false, reduceCtorEq, gM_4, a_97, g2]
    · have hf : sfV (σ (70 + 2 * kz) 1) = nI 0 := by unfold sfV; rw [s1, if_neg hm]
      have g2 : nI 0 ≤ σ 97 kz := sn2.mpr hm
      refine ok_read (vv := oM (rdF (fun i => σ 99 (24 * kz + i)) A n 0)) hI ?_ ?_
      · simp (disch := omega) only [e86_0, e86_1, e86_2, e86_5, e86_6, e86_7, e86_10, e86_11, e86_12, e86_13, e86_16, e86_17, e86_18, e86_19, e86_20, ↓reduceIte, inb_n, ix_n, if_true, ne_eq, Nat.reduceEqDiff, not_false_eq_true, clK_s, tl_s, tl_n, clr_i, clr_n, clr_a, nI_add, vX, c_sf hk, hf, gX_5, q_66]
        exact c_reads_l (c := fun i => σ 99 (24 * kz + i)) hk hn hC h8 c2 (fun i hi => (s5 i hi).1) n 0 none (by omega)
      · simp (disch := omega) only [e195_0, e195_1, e195_4, e195_7, e195_9, e195_10, e195_11, e195_14, e195_15, e195_16, e195_19, e195_22, e195_23, e195_24, ↓reduceIte, gM_0, a_94, inb_n, ix_n, if_true, ne_eq, Nat.reduceEqDiff, not_false_eq_true, vM, clK_s, tl_s, tl_n, clr_i, clr_n, clr_a, nI_add, k_isSheet, hb, bI_0, Bool.true_eq_false, Bool.false_eq_true, not_true_eq_false, not_false_eq_true, if_false, reduceCtorEq, gM_4, a_97, g2]
        exact k_reads_l (d := d + 49) (c := fun i => σ 99 (24 * kz + i)) hk hn hM h8 s4 (fun i hi => rfl) n 0 none (by omega)
end Marks
