/-! THE REFERENCE: people, places, seeing -/
section Mod2
variable {E : aE} {d : Nat} {σ : Nat → Nat → Int32} {A : Tn}
theorem k_whose_l {pv : Int32} (hM : MR (σ 94) A) (hW : tN A ≤ 8) : ∀ r kz, kz + r = tN A → Rn E (d + 1) 121 2 [some (.ref 93), some (.int pv), some (.int (nI kz))] [] (shp, σ) = some (some (.int (oI (whF (tF A) pv r kz))), (shp, σ)) := by
  intro r
  induction r with
  | zero =>
    intro kz hk
    have h1 : tN A ≤ kz := by omega
    simp (disch := omega) only [e121_0, e121_1, e121_2, e121_3, e121_4, e121_7, e121_8, e121_9, e121_12, e121_13, e121_14, e121_15, e121_18, e121_19, e121_22, e121_25, e121_28, e121_29, e121_30, e121_33, e121_34, e121_35, e121_38, e121_39, e121_42, e121_43, gM_0, a_94, inb_n, ix_n, if_true, ne_eq, Nat.reduceEqDiff, not_false_eq_true, hM.1, nI_leI, h1, clr_i, whF, oI]
  | succ r ih =>
    intro kz hk
    have h1 : ¬ tN A ≤ kz := by omega
    have h2 := hM.2.1 kz (by omega) 1 (by omega)
    rw [e121_2]
    simp (disch := omega) only [e121_0, e121_1, e121_3, e121_4, e121_7, e121_8, e121_9, e121_12, e121_13, e121_14, e121_15, e121_18, e121_19, e121_22, e121_25, e121_28, e121_29, e121_30, e121_33, e121_34, e121_35, e121_38, e121_39, e121_42, e121_43, gM_0, a_94, inb_n, ix_n, if_true, ne_eq, Nat.reduceEqDiff, not_false_eq_true, hM.1, nI_leI, h1, if_false, vM, k_of, clK_s, tl_s, h2, clr_i, nI_add]
    by_cases hp : tF A kz 1 = pv
    · simp only [hp, if_true, whF, oI]
    · simp only [hp, if_false, whF]
      exact ih (kz + 1) (by omega)
theorem k_whose {pv : Int32} (hM : MR (σ 94) A) (hW : tN A ≤ 8) : Rn E (d + 1) 121 0 [some (.ref 93), some (.int pv), none] [] (shp, σ) = some (some (.int (oI (spW A pv))), (shp, σ)) := by
  simp only [e121_0, e121_1, clr_i]
  exact k_whose_l hM hW _ 0 (by omega)
theorem k_isScreen {pv : Int32} (hM : MR (σ 94) A) : Rn E d 120 0 [some (.ref 93), some (.int pv)] [] (shp, σ) = some (some (.int (bI (scB (tC A 50) pv))), (shp, σ)) := by
  simp (disch := omega) only [e120_0, e120_1, e120_4, e120_6, e120_7, e120_8, e120_9, e120_10, e120_11, e120_12, e120_15, e120_16, e120_19, e120_20, gM_0, a_94, inb_n, ix_n, if_true, ne_eq, Nat.reduceEqDiff, not_false_eq_true, hM.2.2.2.1, rz_1, rz_0, scB]
  by_cases h1 : (tC A 50 >>> (pv &&& 31)) &&& nI 1 = nI 1
  · simp only [h1, not_true_eq_false, if_false, decide_true]
  · simp only [h1, not_false_eq_true, if_true, decide_false]
theorem spW_31 {pv : Int32} (hW : tN A ≤ 8) : ∀ kz, spW A pv = some kz → kz < 2 ^ 31 := fun kz h => by have := (spW_lt h).1; omega
theorem k_isFree {pv : Int32} (hM : MR (σ 94) A) (hW : tN A ≤ 8) : Rn E (d + 2) 122 0 [some (.ref 93), some (.int pv)] [] (shp, σ) = some (some (.int (bI (spFr A pv))), (shp, σ)) := by
  simp only [e122_0, e122_1, e122_2, e122_5, e122_8, e122_9, e122_10, e122_13, e122_16, e122_17, e122_20, e122_21, vM, k_whose hM hW, k_isScreen hM, clK_s, tl_s, oI_pos (spW_31 hW), bI_n, rz_1, rz_0, spFr]
  cases h1 : spW A pv with
  | some kz => simp
  | none => cases h2 : scB (tC A 50) pv <;> simp
theorem k_isClear_l {tall : Int32} {stz hi pz0 qz0 loz : Nat} (hM : MR (σ 94) A) (hW : tN A ≤ 8) (hst : 0 < stz ∧ stz ≤ 5) (hhi : hi < 20) : ∀ r pz, pz + r * stz ≥ hi → pz < 30 → ∀ w9,
    Rn E (d + 2) 128 50 [some (.ref 93), some (.int (nI pz0)), some (.int (nI qz0)), some (.int tall), some (.int (nI stz)), some (.int (nI loz)), some (.int (nI hi)), some (.int (nI 1)), some (.int (nI pz)), w9] [] (shp, σ) = some (some (.int (bI (clF A tall stz hi r pz))), (shp, σ)) := by
  intro r
  induction r with
  | zero =>
    intro pz hp h30 w9
    have h1 : hi ≤ pz := by omega
    simp (disch := omega) only [e128_0, e128_1, e128_2, e128_3, e128_4, e128_5, e128_6, e128_9, e128_10, e128_13, e128_14, e128_16, e128_17, e128_18, e128_21, e128_22, e128_25, e128_26, e128_28, e128_29, e128_30, e128_33, e128_34, e128_37, e128_38, e128_40, e128_41, e128_43, e128_45, e128_47, e128_48, e128_50, e128_52, e128_54, e128_57, e128_59, e128_62, e128_63, e128_65, e128_68, e128_70, e128_71, e128_73, e128_76, e128_79, e128_81, e128_84, e128_85, e128_87, e128_88, e128_91, e128_92, e128_95, e128_96, e128_99, e128_100, e128_102, e128_104, e128_106, e128_107, e128_109, e128_112, e128_114, nI_leI, h1, if_true, rz_1, clF]
  | succ r ih =>
    intro pz hp h30 w9
    by_cases h1 : hi ≤ pz
    · have h2 : ¬ pz < hi := by omega
      simp (disch := omega) only [e128_0, e128_1, e128_2, e128_3, e128_4, e128_5, e128_6, e128_9, e128_10, e128_13, e128_14, e128_16, e128_17, e128_18, e128_21, e128_22, e128_25, e128_26, e128_28, e128_29, e128_30, e128_33, e128_34, e128_37, e128_38, e128_40, e128_41, e128_43, e128_45, e128_47, e128_48, e128_50, e128_52, e128_54, e128_57, e128_59, e128_62, e128_63, e128_65, e128_68, e128_70, e128_71, e128_73, e128_76, e128_79, e128_81, e128_84, e128_85, e128_87, e128_88, e128_91, e128_92, e128_95, e128_96, e128_99, e128_100, e128_102, e128_104, e128_106, e128_107, e128_109, e128_112, e128_114, nI_leI, h1, if_true, rz_1, clF, h2, if_false]
    · have h2 : pz < hi := by omega
      rw [e128_50]
      simp (disch := omega) only [e128_0, e128_1, e128_2, e128_3, e128_4, e128_5, e128_6, e128_9, e128_10, e128_13, e128_14, e128_16, e128_17, e128_18, e128_21, e128_22, e128_25, e128_26, e128_28, e128_29, e128_30, e128_33, e128_34, e128_37, e128_38, e128_40, e128_41, e128_43, e128_45, e128_47, e128_48, e128_52, e128_54, e128_57, e128_59, e128_62, e128_63, e128_65, e128_68, e128_70, e128_71, e128_73, e128_76, e128_79, e128_81, e128_84, e128_85, e128_87, e128_88, e128_91, e128_92, e128_95, e128_96, e128_99, e128_100, e128_102, e128_104, e128_106, e128_107, e128_109, e128_112, e128_114, nI_leI, h1, if_false, vM, k_whose hM hW, k_isScreen hM, clK_s, tl_s, n10, clr_i, bI_n, oI_neg (spW_31 hW), nI_add]
      cases h3 : scB (tC A 50) (nI pz) with
      | true =>
        have h4 : thru A tall pz = false := by simp [thru, h3]
        simp only [if_true]
        rw [e128_50]
        simp only [e128_0, e128_1, e128_2, e128_3, e128_4, e128_5, e128_6, e128_9, e128_10, e128_13, e128_14, e128_16, e128_17, e128_18, e128_21, e128_22, e128_25, e128_26, e128_28, e128_29, e128_30, e128_33, e128_34, e128_37, e128_38, e128_40, e128_41, e128_43, e128_45, e128_47, e128_48, e128_52, e128_54, e128_57, e128_59, e128_62, e128_63, e128_65, e128_68, e128_70, e128_71, e128_73, e128_76, e128_79, e128_81, e128_84, e128_85, e128_87, e128_88, e128_91, e128_92, e128_95, e128_96, e128_99, e128_100, e128_102, e128_104, e128_106, e128_107, e128_109, e128_112, e128_114, rz_0, clF, h2, h4, if_true, ite_self, Bool.false_eq_true, if_false]
      | false =>
        cases h5 : spW A (nI pz) with
        | none =>
          have h4 : thru A tall pz = true := by simp [thru, h3, h5]
          simp only [if_true, Bool.false_eq_true, if_false, clF, h2, h4]
          exact ih (pz + stz) (by rw [Nat.succ_mul] at hp; omega) (by omega) _
        | some jz =>
          have h6 := (spW_lt h5).1
          have h7 := hM.2.1 jz h6 2 (by omega)
          simp (disch := omega) only [Bool.false_eq_true, if_false, oI, k_of, clK_s, tl_s, h7, reduceCtorEq, e128_0, e128_1, e128_2, e128_3, e128_4, e128_5, e128_6, e128_9, e128_10, e128_13, e128_14, e128_16, e128_17, e128_18, e128_21, e128_22, e128_25, e128_26, e128_28, e128_29, e128_30, e128_33, e128_34, e128_37, e128_38, e128_40, e128_41, e128_43, e128_45, e128_47, e128_48, e128_52, e128_54, e128_57, e128_59, e128_62, e128_63, e128_65, e128_68, e128_70, e128_71, e128_73, e128_76, e128_79, e128_81, e128_84, e128_85, e128_87, e128_88, e128_91, e128_92, e128_95, e128_96, e128_99, e128_100, e128_102, e128_104, e128_106, e128_107, e128_109, e128_112, e128_114, clr_i, nI_add]
          by_cases h8 : tF A jz 2 ≤ tall
          · have h4 : thru A tall pz = true := by simp [thru, h3, h5, h8]
            have h9 : ¬ tall < tF A jz 2 := Int32.not_lt.mpr h8
            simp only [h9, if_false, clF, h2, h4, if_true]
            exact ih (pz + stz) (by rw [Nat.succ_mul] at hp; omega) (by omega) _
          · have h4 : thru A tall pz = false := by simp [thru, h3, h5, h8]
            have h9 : tall < tF A jz 2 := Int32.not_le.mp h8
            simp only [h9, if_true]
            rw [e128_50]
            simp only [e128_0, e128_1, e128_2, e128_3, e128_4, e128_5, e128_6, e128_9, e128_10, e128_13, e128_14, e128_16, e128_17, e128_18, e128_21, e128_22, e128_25, e128_26, e128_28, e128_29, e128_30, e128_33, e128_34, e128_37, e128_38, e128_40, e128_41, e128_43, e128_45, e128_47, e128_48, e128_52, e128_54, e128_57, e128_59, e128_62, e128_63, e128_65, e128_68, e128_70, e128_71, e128_73, e128_76, e128_79, e128_81, e128_84, e128_85, e128_87, e128_88, e128_91, e128_92, e128_95, e128_96, e128_99, e128_100, e128_102, e128_104, e128_106, e128_107, e128_109, e128_112, e128_114, rz_0, clF, h2, h4, if_true, ite_self, Bool.false_eq_true, if_false]
theorem nI_lt2 {az bz : Nat} (ha : az < 2 ^ 31) (hb : bz < 2 ^ 31) : (nI az = nI bz) ↔ az = bz := nI_eq ha hb
theorem k_isClear {tall : Int32} {pz qz : Nat} (hM : MR (σ 94) A) (hW : tN A ≤ 8) (hp : pz < 20) (hq : qz < 20) :
    Rn E (d + 2) 128 0 [some (.ref 93), some (.int (nI pz)), some (.int (nI qz)), some (.int tall), none, none, none, none, none, none] [] (shp, σ) = some (some (.int (bI (spClr A pz qz tall))), (shp, σ)) := by
  have key : ∀ stz loz hi, (stz = 1 ∨ stz = 5) → hi < 20 → loz < 20 → Rn E (d + 2) 128 50 [some (.ref 93), some (.int (nI pz)), some (.int (nI qz)), some (.int tall), some (.int (nI stz)), some (.int (nI loz)), some (.int (nI hi)), some (.int (nI 1)), some (.int (nI (loz + stz))), none] [] (shp, σ) = some (some (.int (bI (clF A tall stz hi 20 (loz + stz)))), (shp, σ)) := by
    intro stz loz hi h1 h2 h3
    exact k_isClear_l hM hW (by omega) h2 20 _ (by rcases h1 with rfl | rfl <;> omega) (by omega) _
  simp (disch := omega) only [e128_0, e128_1, e128_2, e128_3, e128_4, e128_5, e128_6, e128_9, e128_10, e128_13, e128_14, e128_16, e128_17, e128_18, e128_21, e128_22, e128_25, e128_26, e128_28, e128_29, e128_30, e128_33, e128_34, e128_37, e128_38, e128_40, e128_41, e128_43, e128_45, e128_47, e128_48, dv_n, pk_div, nI_lt2, clr_i, clr_n, nI_leI, nI_add, spClr]
  by_cases h1 : pz / 5 = qz / 5 <;> by_cases h2 : pz < qz
  · have h3 : ¬ qz ≤ pz := by omega
    simp only [h1, h2, h3, not_true_eq_false, if_true, if_false, e128_0, e128_1, e128_2, e128_3, e128_4, e128_5, e128_6, e128_9, e128_10, e128_13, e128_14, e128_16, e128_17, e128_18, e128_21, e128_22, e128_25, e128_26, e128_28, e128_29, e128_30, e128_33, e128_34, e128_37, e128_38, e128_40, e128_41, e128_43, e128_45, e128_47, e128_48, clr_i, clr_n, nI_add]
    exact key 1 pz qz (Or.inl rfl) hq hp
  · have h3 : qz ≤ pz := by omega
    simp only [h1, h2, h3, not_true_eq_false, if_true, if_false, e128_0, e128_1, e128_2, e128_3, e128_4, e128_5, e128_6, e128_9, e128_10, e128_13, e128_14, e128_16, e128_17, e128_18, e128_21, e128_22, e128_25, e128_26, e128_28, e128_29, e128_30, e128_33, e128_34, e128_37, e128_38, e128_40, e128_41, e128_43, e128_45, e128_47, e128_48, clr_i, clr_n, nI_add]
    exact key 1 qz pz (Or.inl rfl) hp hq
  · have h3 : ¬ qz ≤ pz := by omega
    simp only [h1, h2, h3, not_false_eq_true, if_true, if_false, e128_0, e128_1, e128_2, e128_3, e128_4, e128_5, e128_6, e128_9, e128_10, e128_13, e128_14, e128_16, e128_17, e128_18, e128_21, e128_22, e128_25, e128_26, e128_28, e128_29, e128_30, e128_33, e128_34, e128_37, e128_38, e128_40, e128_41, e128_43, e128_45, e128_47, e128_48, clr_i, clr_n, nI_add]
    exact key 5 pz qz (Or.inr rfl) hq hp
  · have h3 : qz ≤ pz := by omega
    simp only [h1, h2, h3, not_false_eq_true, if_true, if_false, e128_0, e128_1, e128_2, e128_3, e128_4, e128_5, e128_6, e128_9, e128_10, e128_13, e128_14, e128_16, e128_17, e128_18, e128_21, e128_22, e128_25, e128_26, e128_28, e128_29, e128_30, e128_33, e128_34, e128_37, e128_38, e128_40, e128_41, e128_43, e128_45, e128_47, e128_48, clr_i, clr_n, nI_add]
    exact key 5 qz pz (Or.inr rfl) hp hq
theorem rem_n {az dz : Nat} (ha : az < 2 ^ 31) (h0 : 0 < dz) (hd : dz < 2 ^ 31) : irem (nI az) (nI dz) = nI (az % dz) := pk_rem ha h0 hd
theorem k_doesSee {az bz : Nat} (hM : MR (σ 94) A) (hW : WFp A) (ha : az < tN A) (hb : bz < tN A) :
    Rn E (d + 3) 129 0 [some (.ref 93), some (.int (nI az)), some (.int (nI bz)), none, none] [] (shp, σ) = some (some (.int (bI (spSee A az bz))), (shp, σ)) := by
  have h8 := hW.1
  obtain ⟨pz, hp, ep⟩ := (hW.2.1 az ha).1
  obtain ⟨qz, hq, eq⟩ := (hW.2.1 bz hb).1
  have f1 := hM.2.1 az ha 1 (by omega)
  have f2 := hM.2.1 bz hb 1 (by omega)
  have f3 := hM.2.1 az ha 2 (by omega)
  have f4 := hM.2.1 bz hb 2 (by omega)
  have g1 : plc A az = pz := by unfold plc; rw [ep]; exact ix_n (by omega)
  have g2 : plc A bz = qz := by unfold plc; rw [eq]; exact ix_n (by omega)
  simp (disch := omega) only [e129_0, e129_1, e129_2, e129_3, e129_6, e129_7, e129_8, e129_9, e129_10, e129_13, e129_15, e129_16, e129_17, e129_20, e129_21, e129_22, e129_23, e129_25, e129_26, e129_27, e129_30, e129_31, e129_32, e129_33, e129_35, e129_36, e129_37, e129_40, e129_41, e129_42, e129_43, e129_44, e129_46, e129_47, e129_48, e129_49, e129_52, e129_53, e129_54, e129_55, e129_58, e129_61, e129_62, e129_63, e129_64, e129_67, e129_70, e129_71, e129_72, e129_73, e129_76, e129_79, vM, k_of, clK_s, tl_s, f1, f2, f3, f4, ep, eq, clr_i, nI_lt2, dv_n, rm_n, pk_div, rem_n, rz_0, spSee, g1, g2, k_isClear hM h8, rz_b]
  by_cases h1 : az = bz
  · simp only [h1, true_or, if_true]
  · by_cases h2 : pz / 5 = qz / 5
    · by_cases h4 : tF A az 2 ≤ tF A bz 2 <;> simp (disch := omega) only [h1, h2, h4, if_true, if_false, false_or, not_true_eq_false, false_and, e129_0, e129_1, e129_2, e129_3, e129_6, e129_7, e129_8, e129_9, e129_10, e129_13, e129_15, e129_16, e129_17, e129_20, e129_21, e129_22, e129_23, e129_25, e129_26, e129_27, e129_30, e129_31, e129_32, e129_33, e129_35, e129_36, e129_37, e129_40, e129_41, e129_42, e129_43, e129_44, e129_46, e129_47, e129_48, e129_49, e129_52, e129_53, e129_54, e129_55, e129_58, e129_61, e129_62, e129_63, e129_64, e129_67, e129_70, e129_71, e129_72, e129_73, e129_76, e129_79, vM, k_isClear hM h8, clK_s, tl_s, rz_b]
    · by_cases h3 : pz % 5 = qz % 5
      · by_cases h4 : tF A az 2 ≤ tF A bz 2 <;> simp (disch := omega) only [h1, h2, h3, h4, if_true, if_false, false_or, not_true_eq_false, not_false_eq_true, and_false, e129_0, e129_1, e129_2, e129_3, e129_6, e129_7, e129_8, e129_9, e129_10, e129_13, e129_15, e129_16, e129_17, e129_20, e129_21, e129_22, e129_23, e129_25, e129_26, e129_27, e129_30, e129_31, e129_32, e129_33, e129_35, e129_36, e129_37, e129_40, e129_41, e129_42, e129_43, e129_44, e129_46, e129_47, e129_48, e129_49, e129_52, e129_53, e129_54, e129_55, e129_58, e129_61, e129_62, e129_63, e129_64, e129_67, e129_70, e129_71, e129_72, e129_73, e129_76, e129_79, vM, k_isClear hM h8, clK_s, tl_s, rz_b]
      · simp only [h1, h2, h3, if_true, if_false, not_false_eq_true, and_self, or_true]
end Mod2
