/-! SHEETS -/
theorem INV.g {σ σ2 : Nat → Nat → Int32} {A B : Tn} {im : Bool} (hI : INV σ A B im) (h1 : ∀ a, (4 ≤ a ∧ a < 34) ∨ (36 ≤ a ∧ a < 56) ∨ a = 94 ∨ a = 95 → σ2 a = σ a) (h2 : σ2 0 10 = σ 0 10) (h3 : σ2 93 3 = σ 93 3) (hL : RLL σ2) : INV σ2 A B im := by
  obtain ⟨⟨i1, i2, i3, i4, i5, i6⟩, ⟨j1, j2, j3⟩, i7⟩ := hI
  refine ⟨⟨i1.ext (fun a g1 g2 _ => h1 a (by omega)), by rw [h1 94 (by omega)]; exact i2, i3, i4, i5, i6.ext i4.1 (fun a g1 g2 => h1 a (by omega))⟩, ⟨by rw [h2]; exact j1, by rw [h3]; exact j2, ?_⟩, hL⟩
  intro hi
  obtain ⟨k1, k2, k3, k4, k5⟩ := j3 hi
  exact ⟨k1.ext (fun a g1 g2 _ => h1 a (by omega)), by rw [h1 95 (by omega)]; exact k2, k3, k4, k5⟩
/-- only the sheets change -/
theorem INV.s {σ σ2 : Nat → Nat → Int32} {A B : Tn} {im : Bool} (hI : INV σ A B im) (h1 : ∀ a, (a < 70 ∨ 78 ≤ a) → a ≠ 97 → a ≠ 98 → a ≠ 99 → a ≠ 110 → σ2 a = σ a) (hL : RLs σ2) : INV σ2 A B im := by
  obtain ⟨l1, l2, l3, l4⟩ := hI.2.2
  refine hI.g (fun a ha => h1 a (by omega) (by omega) (by omega) (by omega) (by omega)) (by rw [h1 0 (by omega) (by omega) (by omega) (by omega) (by omega)]) (by rw [h1 93 (by omega) (by omega) (by omega) (by omega) (by omega)]) ⟨hL, l2.ext (fun a ha => h1 a (by omega) (by omega) (by omega) (by omega) (by omega)), l3.ext (by rw [h1 34 (by omega) (by omega) (by omega) (by omega) (by omega)]) (by rw [h1 93 (by omega) (by omega) (by omega) (by omega) (by omega)]) (h1 35 (by omega) (by omega) (by omega) (by omega) (by omega)) (h1 107 (by omega) (by omega) (by omega) (by omega) (by omega)), l4.ext (by rw [h1 0 (by omega) (by omega) (by omega) (by omega) (by omega)]) (by rw [h1 93 (by omega) (by omega) (by omega) (by omega) (by omega)]) (h1 68 (by omega) (by omega) (by omega) (by omega) (by omega)) (h1 111 (by omega) (by omega) (by omega) (by omega) (by omega))⟩
theorem isH_n {kz : Nat} (hk : kz < 4) : isH (70 + 2 * kz) := by
  unfold isH
  omega
theorem i2s_sh (xv : Int32) : (xv <<< (nI 16 &&& 31)) >>> (nI 16 &&& 31) = xv.toInt16.toInt32 := by
  have hs : ((nI 16 &&& 31).toBitVec.smod 32).toNat = 16 := by decide +kernel
  refine i32_ext (fun i hi => ?_)
  rw [Int32.toBitVec_shiftRight, BitVec.sshiftRight', BitVec.getLsbD_sshiftRight, hs]
  have hsl : (xv <<< (nI 16 &&& 31)).toBitVec = xv.toBitVec <<< 16 := by
    rw [Int32.toBitVec_shiftLeft, BitVec.shiftLeft_eq', hs]
  have hr : (xv.toInt16.toInt32).toBitVec = (xv.toBitVec.signExtend 16).signExtend 32 := by
    rfl
  rw [hsl, hr, BitVec.getLsbD_signExtend, BitVec.getLsbD_signExtend, BitVec.getLsbD_shiftLeft]
  have hm : (BitVec.signExtend 16 xv.toBitVec).msb = xv.toBitVec.getLsbD 15 := by
    rw [BitVec.msb_eq_getLsbD_last, BitVec.getLsbD_signExtend]
    simp
  have hm2 : (xv.toBitVec <<< 16).msb = xv.toBitVec.getLsbD 15 := by
    rw [BitVec.msb_eq_getLsbD_last, BitVec.getLsbD_shiftLeft]
    simp
  by_cases h16 : i < 16
  · rw [if_pos (by omega), if_pos h16, if_pos (by omega)]
    have g1 : ¬ 32 ≤ i := by omega
    have g2 : ¬ 16 + i < 16 := by omega
    simp [hi, h16, show 16 + i < 32 by omega, g1, g2]
  · rw [if_neg (by omega), if_neg h16, hm, hm2]
    simp [hi]
theorem i2s_rg (xv : Int32) : rg (-99999) 99999 xv.toInt16.toInt32 = true := by
  rw [rg_iff, Int16.toInt_toInt32]
  have h1 := Int16.le_toInt xv.toInt16
  have h2 := Int16.toInt_lt xv.toInt16
  omega
section Sheets
variable {E : aE} {d h : Nat} {σ : Nat → Nat → Int32} {A B : Tn} {im : Bool}
theorem sort_neg {sv : Int32} (hs : sv = (-1) ∨ sv = nI 0 ∨ sv = nI 1) : ((sv < nI 0) ↔ sv = (-1)) ∧ ((nI 0 ≤ sv) ↔ ¬ sv = (-1)) := by
  rcases hs with rfl | rfl | rfl <;> decide +kernel
/-- what refuses a call that needs a sheet -/
def sfV (sv : Int32) : Int32 := if sv = (-1) then (-1000000011) else nI 0
theorem c_sfBad {xv : Int32} (hb : rg 0 3 xv = false) : Rn E (d + 1) 104 0 [some (.ref 0), some (.int xv)] [] (shp, σ) = some (some (.int (-1000000001)), (shp, σ)) := by
  simp (disch := omega) only [e104_0, e104_1, e104_2, e104_3, e104_6, e104_9, e104_11, e104_12, e104_13, e104_16, e104_17, e104_18, e104_21, e104_22, e104_25, e104_27, e104_30, e104_31, ↓reduceIte, inb_n, ix_n, if_true, ne_eq, Nat.reduceEqDiff, not_false_eq_true, clK_s, tl_s, tl_n, clr_i, clr_n, clr_a, nI_add, c_isWithin, tI_0, tI_1, tI_2, tI_3, tI_4, tI_5, tI_6, tI_7, tI_8, tI_19, tI_20, tI_23, tI_24, tI_29, tI_30, tI_48, tI_50, tI_57, tI_60, tI_97, tI_100, tI_122, tI_200, tI_99999, tI_m1, tI_m99999, hb, bI_0, Bool.true_eq_false, Bool.false_eq_true, not_true_eq_false, not_false_eq_true, if_false, reduceCtorEq]
theorem c_sf {kz : Nat} (hk : kz < 4) : Rn E (d + 1) 104 0 [some (.ref 0), some (.int (nI kz))] [] (shp, σ) = some (some (.int (sfV (σ (70 + 2 * kz) 1))), (shp, σ)) := by
  have hb : rg 0 3 (nI kz) = true := by rw [show (3 : Int) = ((3 : Nat) : Int) from rfl, rg_nI (by omega)]; simp; omega
  simp (disch := omega) only [e104_0, e104_1, e104_2, e104_3, e104_6, e104_9, e104_11, e104_12, e104_13, e104_16, e104_17, e104_18, e104_21, e104_22, e104_25, e104_27, e104_30, e104_31, ↓reduceIte, inb_n, ix_n, if_true, ne_eq, Nat.reduceEqDiff, not_false_eq_true, clK_s, tl_s, tl_n, clr_i, clr_n, clr_a, nI_add, c_isWithin, tI_0, tI_1, tI_2, tI_3, tI_4, tI_5, tI_6, tI_7, tI_8, tI_19, tI_20, tI_23, tI_24, tI_29, tI_30, tI_48, tI_50, tI_57, tI_60, tI_97, tI_100, tI_122, tI_200, tI_99999, tI_m1, tI_m99999, hb, bI_0, Bool.true_eq_false, Bool.false_eq_true, not_true_eq_false, not_false_eq_true, if_false, reduceCtorEq, gX_5, q_66, gH_1 (isH_n hk), sfV]
  by_cases hq : σ (70 + 2 * kz) 1 = (-1) <;> simp [hq]
theorem c_clears_l {nv2 lv : Int32} (hH : isH h) : ∀ r kz (σ1 : Nat → Nat → Int32), kz + r = 24 → Fr [h, h + 1] σ σ1 → (∀ i, i < kz → σ1 (h + 1) i = nI 0) →
    ∃ σ2, Rn E d 23 2 [some (.ref h), some (.int nv2), some (.int lv), some (.int (nI kz))] [] (shp, σ1) = some (none, (shp, σ2)) ∧ Fr [h, h + 1] σ σ2 ∧ (∀ i, i < 24 → σ2 (h + 1) i = nI 0) ∧ σ2 h 1 = nv2 ∧ σ2 h 2 = lv := by
  have hH2 : h = 70 ∨ h = 72 ∨ h = 74 ∨ h = 76 ∨ h = 79 ∨ h = 82 ∨ h = 85 ∨ h = 88 ∨ h = 91 := hH
  intro r
  induction r with
  | zero =>
    intro kz σ1 hk hf hz
    have h1 : 24 ≤ kz := by omega
    refine ⟨su (su σ1 h 1 nv2) h 2 lv, ?_, (hf.su (by simp)).su (by simp), ?_, ?_, ?_⟩
    · simp (disch := omega) only [e23_0, e23_1, e23_2, e23_3, e23_5, e23_8, e23_9, e23_12, e23_13, e23_14, e23_15, e23_18, e23_21, e23_22, e23_23, e23_26, e23_27, e23_28, e23_31, ↓reduceIte, inb_n, ix_n, if_true, ne_eq, Nat.reduceEqDiff, not_false_eq_true, clK_s, tl_s, tl_n, clr_i, clr_n, clr_a, nI_add, nI_leI, h1, pH_1 hH, pH_2 hH]
    · intro i hi
      rw [su_row (by omega), su_row (by omega)]; exact hz i (by omega)
    · rw [su_rf, pk_un (by omega), su_rf, pk_us]
    · rw [su_rf, pk_us]
  | succ r ih =>
    intro kz σ1 hk hf hz
    have h1 : ¬ 24 ≤ kz := by omega
    obtain ⟨σ2, g1, g2⟩ := ih (kz + 1) (su σ1 (h + 1) kz (nI 0)) (by omega) (hf.su (by simp)) (by
      intro i hi
      rw [su_rf]
      by_cases hq : i = kz
      · rw [hq, pk_us]
      · rw [pk_un hq]; exact hz i (by omega))
    refine ⟨σ2, ?_, g2⟩
    rw [← g1]
    conv => lhs; rw [e23_2]
    simp (disch := omega) only [e23_3, e23_5, e23_8, e23_9, e23_12, e23_13, e23_14, e23_15, e23_18, ↓reduceIte, inb_n, ix_n, if_true, ne_eq, Nat.reduceEqDiff, not_false_eq_true, clK_s, tl_s, tl_n, clr_i, clr_n, clr_a, nI_add, nI_leI, h1, gH_0 hH, sH_1 hH]
theorem k_sheet_l {kz : Nat} {v1 : Option Value} {yv2 : Int32} (hk : kz < 4) : ∀ r iz (σ1 : Nat → Nat → Int32), iz + r = 24 → Fr [99] σ σ1 → (∀ i, i < iz → σ1 99 (24 * kz + i) = nI 0) → (∀ j, (j < 24 * kz ∨ 24 * kz + 24 ≤ j) → σ1 99 j = σ 99 j) →
    ∃ σ2, Rn E d 192 69 [some (.ref 93), some (.int (nI kz)), v1, some (.int yv2), some (.int (nI iz))] [] (shp, σ1) = some (some (.int (σ 98 kz)), (shp, σ2)) ∧ Fr [99] σ σ2 ∧ (∀ i, i < 24 → σ2 99 (24 * kz + i) = nI 0) ∧ (∀ j, (j < 24 * kz ∨ 24 * kz + 24 ≤ j) → σ2 99 j = σ 99 j) := by
  intro r
  induction r with
  | zero =>
    intro iz σ1 hi hf hz ho
    have h1 : 24 ≤ iz := by omega
    have e98 : σ1 98 = σ 98 := hf 98 (by decide)
    refine ⟨σ1, ?_, hf, fun i hj => hz i (by omega), ho⟩
    simp (disch := omega) only [e192_69, e192_71, e192_73, e192_76, e192_77, e192_80, e192_82, e192_83, e192_84, e192_86, e192_87, e192_88, e192_89, e192_92, e192_95, e192_96, e192_99, e192_100, e192_101, ↓reduceIte, gM_0, a_94, inb_n, ix_n, if_true, ne_eq, Nat.reduceEqDiff, not_false_eq_true, vM, clK_s, tl_s, tl_n, clr_i, clr_n, clr_a, nI_add, nI_leI, h1, gM_5, a_98, e98]
  | succ r ih =>
    intro iz σ1 hi hf hz ho
    have h1 : ¬ 24 ≤ iz := by omega
    obtain ⟨σ2, g1, g2⟩ := ih (iz + 1) (su σ1 99 (24 * kz + iz) (nI 0)) (by omega) (hf.su (by simp)) (by
      intro i hj
      rw [su_rf]
      by_cases hq : i = iz
      · rw [hq, pk_us]
      · rw [pk_un (by omega)]; exact hz i (by omega)) (by
      intro j hj
      rw [su_rf, pk_un (by omega)]; exact ho j hj)
    refine ⟨σ2, ?_, g2⟩
    rw [← g1]
    conv => lhs; rw [e192_69]
    simp (disch := omega) only [e192_71, e192_73, e192_76, e192_77, e192_80, e192_82, e192_83, e192_84, e192_86, e192_87, e192_88, e192_89, e192_92, ↓reduceIte, gM_0, a_94, inb_n, ix_n, if_true, ne_eq, Nat.reduceEqDiff, not_false_eq_true, vM, clK_s, tl_s, tl_n, clr_i, clr_n, clr_a, nI_add, nI_leI, h1, gM_6, s_99, pk_mul]
theorem op_sheet {xv sv nv1 : Int32} (hI : INV σ A B im) : OK2 σ (Rn E (d + 50) 83 0 [some (.ref 0), some (.int xv), some (.int sv), some (.int nv1), none] []) (Rn E (d + 50) 192 0 [some (.ref 93), some (.int xv), some (.int sv), some (.int nv1), none] []) := by
  obtain ⟨_, _, hL⟩ := id hI
  have hS := hL.1
  cases hb : rg 0 3 xv with
  | false =>
    refine ok_read (vv := (-1000000001)) hI ?_ ?_
    · simp (disch := omega) only [e83_0, e83_1, e83_2, e83_3, e83_6, e83_9, e83_10, e83_11, e83_12, e83_15, e83_18, e83_20, e83_21, e83_22, e83_23, e83_26, e83_27, e83_30, e83_31, e83_33, e83_35, e83_37, e83_40, e83_42, e83_43, e83_45, e83_48, e83_50, e83_51, e83_52, e83_55, e83_56, e83_57, e83_58, e83_60, e83_63, e83_65, ↓reduceIte, inb_n, ix_n, if_true, ne_eq, Nat.reduceEqDiff, not_false_eq_true, clK_s, tl_s, tl_n, clr_i, clr_n, clr_a, nI_add, c_isWithin, tI_0, tI_1, tI_2, tI_3, tI_4, tI_5, tI_6, tI_7, tI_8, tI_19, tI_20, tI_23, tI_24, tI_29, tI_30, tI_48, tI_50, tI_57, tI_60, tI_97, tI_100, tI_122, tI_200, tI_99999, tI_m1, tI_m99999, hb, bI_0, Bool.true_eq_false, Bool.false_eq_true, not_true_eq_false, not_false_eq_true, if_false, reduceCtorEq]
    · simp (disch := omega) only [e192_0, e192_1, e192_4, e192_7, e192_8, e192_9, e192_12, e192_13, e192_16, e192_19, e192_20, e192_23, e192_24, e192_26, e192_29, e192_31, e192_32, e192_33, e192_36, e192_37, e192_40, e192_43, ↓reduceIte, gM_0, a_94, inb_n, ix_n, if_true, ne_eq, Nat.reduceEqDiff, not_false_eq_true, vM, clK_s, tl_s, tl_n, clr_i, clr_n, clr_a, nI_add, k_isSheet, hb, bI_0, Bool.true_eq_false, Bool.false_eq_true, not_true_eq_false, not_false_eq_true, if_false, reduceCtorEq]
  | true =>
    obtain ⟨kz, hk, rfl⟩ := rg_e (n := 3) rfl hb
    have hk : kz < 4 := by omega
    cases hq : rg (-1) 1 sv with
    | false =>
      refine ok_read (vv := (-1000000001)) hI ?_ ?_
      · simp (disch := omega) only [e83_0, e83_1, e83_2, e83_3, e83_6, e83_9, e83_10, e83_11, e83_12, e83_15, e83_18, e83_20, e83_21, e83_22, e83_23, e83_26, e83_27, e83_30, e83_31, e83_33, e83_35, e83_37, e83_40, e83_42, e83_43, e83_45, e83_48, e83_50, e83_51, e83_52, e83_55, e83_56, e83_57, e83_58, e83_60, e83_63, e83_65, ↓reduceIte, inb_n, ix_n, if_true, ne_eq, Nat.reduceEqDiff, not_false_eq_true, clK_s, tl_s, tl_n, clr_i, clr_n, clr_a, nI_add, c_isWithin, tI_0, tI_1, tI_2, tI_3, tI_4, tI_5, tI_6, tI_7, tI_8, tI_19, tI_20, tI_23, tI_24, tI_29, tI_30, tI_48, tI_50, tI_57, tI_60, tI_97, tI_100, tI_122, tI_200, tI_99999, tI_m1, tI_m99999, hb, hq, bI_0, Bool.true_eq_false, Bool.false_eq_true, not_true_eq_false, not_false_eq_true, if_false, reduceCtorEq]
      · simp (disch := omega) only [e192_0, e192_1, e192_4, e192_7, e192_8, e192_9, e192_12, e192_13, e192_16, e192_19, e192_20, e192_23, e192_24, e192_26, e192_29, e192_31, e192_32, e192_33, e192_36, e192_37, e192_40, e192_43, ↓reduceIte, gM_0, a_94, inb_n, ix_n, if_true, ne_eq, Nat.reduceEqDiff, not_false_eq_true, vM, clK_s, tl_s, tl_n, clr_i, clr_n, clr_a, nI_add, k_isSheet, k_in, rgL_c, tL_0, tL_1, tL_2, tL_3, tL_4, tL_5, tL_6, tL_7, tL_8, tL_19, tL_30, tL_48, tL_50, tL_57, tL_60, tL_97, tL_100, tL_122, tL_200, tL_99999, tL_m1, tL_m99999, hb, hq, bI_0, Bool.true_eq_false, Bool.false_eq_true, not_true_eq_false, not_false_eq_true, if_false, reduceCtorEq]
    | true =>
      have hr := rg_iff.mp hq
      have hs : sv = (-1) ∨ sv = nI 0 ∨ sv = nI 1 := by
        rcases (by omega : sv.toInt = -1 ∨ sv.toInt = 0 ∨ sv.toInt = 1) with h | h | h
        · exact Or.inl (Int32.toInt_inj.mp (by rw [h, nI_m1]))
        · exact Or.inr (Or.inl (Int32.toInt_inj.mp (by rw [h, nI_toInt (by omega)]; rfl)))
        · exact Or.inr (Or.inr (Int32.toInt_inj.mp (by rw [h, nI_toInt (by omega)]; rfl)))
      obtain ⟨sn1, sn2⟩ := sort_neg hs
      have hfin : ∀ lz : Nat, lz ≤ 24 → (Rn E (d + 50) 83 0 [some (.ref 0), some (.int (nI kz)), some (.int sv), some (.int nv1), none] [] (shp, σ) = Rn E (d + 50) 83 51 [some (.ref 0), some (.int (nI kz)), some (.int sv), some (.int nv1), some (.int (nI lz))] [] (shp, σ)) → (∀ σ1 : Nat → Nat → Int32, Rn E (d + 50) 192 0 [some (.ref 93), some (.int (nI kz)), some (.int sv), some (.int nv1), none] [] (shp, σ1) = Rn E (d + 50) 192 69 [some (.ref 93), some (.int (nI kz)), some (.int sv), some (.int nv1), some (.int (nI 0))] [] (shp, su (su σ1 97 kz sv) 98 kz (nI lz))) → OK2 σ (Rn E (d + 50) 83 0 [some (.ref 0), some (.int (nI kz)), some (.int sv), some (.int nv1), none] []) (Rn E (d + 50) 192 0 [some (.ref 93), some (.int (nI kz)), some (.int sv), some (.int nv1), none] []) := by
        intro lz hl g1 g2
        obtain ⟨σ1, a1, a2, a3, a4, a5⟩ := c_clears_l (E := E) (d := d + 49) (σ := σ) (h := 70 + 2 * kz) (nv2 := sv) (lv := nI lz) (isH_n hk) 24 0 σ (by omega) Fr.rf (fun i hi => by omega)
        obtain ⟨σ2, b1, b2, b3, b4⟩ := k_sheet_l (E := E) (d := d + 50) (σ := su (su σ1 97 kz sv) 98 kz (nI lz)) (kz := kz) (v1 := some (.int sv)) (yv2 := nv1) hk 24 0 _ (by omega) Fr.rf (fun i hi => by omega) (fun j hj => rfl)
        have e98 : su (su σ1 97 kz sv) 98 kz (nI lz) 98 kz = nI lz := by rw [su_rf, pk_us]
        rw [e98] at b1
        have hrow : ∀ a, a ≠ 97 → a ≠ 98 → a ≠ 99 → a ≠ 70 + 2 * kz → a ≠ 70 + 2 * kz + 1 → σ2 a = σ a := by
          intro a h1 h2 h3 h4 h5
          rw [b2 a (by simpa using h3), su_row h2, su_row h1, a2 a (by simp; exact ⟨h4, h5⟩)]
        have hrc : ∀ a, a < 93 → σ2 a = σ1 a := by
          intro a ha
          rw [b2 a (by simp; omega), su_row (by omega), su_row (by omega)]
        have hr1 : ∀ a, 93 ≤ a → σ1 a = σ a := fun a ha => a2 a (by simp; omega)
        have r97 : ∀ j, σ2 97 j = if j = kz then sv else σ 97 j := by
          intro j
          rw [b2 97 (by decide), su_row (by decide), su_rf, hr1 97 (by omega)]
          by_cases hj : j = kz
          · rw [if_pos hj, hj, pk_us]
          · rw [if_neg hj, pk_un hj]
        have r98 : ∀ j, σ2 98 j = if j = kz then nI lz else σ 98 j := by
          intro j
          rw [b2 98 (by decide), su_rf, su_row (by decide), hr1 98 (by omega)]
          by_cases hj : j = kz
          · rw [if_pos hj, hj, pk_us]
          · rw [if_neg hj, pk_un hj]
        refine ⟨nI lz, σ1, σ2, A, B, im, ?_, ?_, hI.s (fun a h1 h2 h3 h4 _ => hrow a h2 h3 h4 (by omega) (by omega)) ?_⟩
        · rw [g1]
          have a1' : Rn E (d + 49) 23 0 [some (.ref (70 + 2 * kz)), some (.int sv), some (.int (nI lz)), none] [] (shp, σ) = some (none, (shp, σ1)) := by
            simp only [e23_0, e23_1, clr_i]
            exact a1
          simp (disch := omega) only [e83_51, e83_52, e83_55, e83_56, e83_57, e83_58, e83_60, e83_63, e83_65, ↓reduceIte, inb_n, ix_n, if_true, ne_eq, Nat.reduceEqDiff, not_false_eq_true, clK_s, tl_s, tl_n, clr_i, clr_n, clr_a, nI_add, gX_5, q_66, vH (isH_n hk), a1']
        · rw [g2 σ1]
          exact b1
        · intro j hj
          by_cases hjk : j = kz
          · subst hjk
            rw [r97, r98, if_pos rfl, if_pos rfl, hrc _ (by omega), hrc _ (by omega)]
            refine ⟨a4, a5, hs, ⟨lz, hl, rfl⟩, fun i hi => ?_⟩
            rw [a3 i hi, b3 i hi]
            exact ⟨rfl, Or.inr (by decide +kernel)⟩
          · obtain ⟨s1, s2, s3, s4, s5⟩ := hS j hj
            rw [r97, r98, if_neg hjk, if_neg hjk, hrow (70 + 2 * j) (by omega) (by omega) (by omega) (by omega) (by omega), hrow (70 + 2 * j + 1) (by omega) (by omega) (by omega) (by omega) (by omega)]
            refine ⟨s1, s2, s3, s4, fun i hi => ?_⟩
            rw [b4 _ (by omega), su_row (by decide), su_row (by decide), hr1 99 (by omega)]
            exact s5 i hi
      by_cases hm : sv = (-1)
      · have g0 : ¬ nI 24 < nI 0 := by decide +kernel
        have g1 : nI 0 ≤ nI 24 := by decide +kernel
        have g2 : nI 0 ≤ nI 0 := by decide +kernel
        have hneg := sn1.mpr hm
        have hneg2 : ¬ nI 0 ≤ sv := fun z => sn2.mp z hm
        refine hfin 0 (by omega) ?_ ?_
        · subst hm
          simp (disch := omega) only [e83_0, e83_1, e83_2, e83_3, e83_6, e83_9, e83_10, e83_11, e83_12, e83_15, e83_18, e83_20, e83_21, e83_22, e83_23, e83_26, e83_27, e83_30, e83_31, e83_33, e83_35, e83_37, e83_40, e83_42, e83_43, e83_45, e83_48, ↓reduceIte, inb_n, ix_n, if_true, ne_eq, Nat.reduceEqDiff, not_false_eq_true, clK_s, tl_s, tl_n, clr_i, clr_n, clr_a, nI_add, c_isWithin, tI_0, tI_1, tI_2, tI_3, tI_4, tI_5, tI_6, tI_7, tI_8, tI_19, tI_20, tI_23, tI_24, tI_29, tI_30, tI_48, tI_50, tI_57, tI_60, tI_97, tI_100, tI_122, tI_200, tI_99999, tI_m1, tI_m99999, hb, hq, bI_0, Bool.true_eq_false, Bool.false_eq_true, not_true_eq_false, not_false_eq_true, if_false, reduceCtorEq, g1, g2]
        · intro σ1
          simp (disch := omega) only [e192_0, e192_1, e192_4, e192_7, e192_8, e192_9, e192_12, e192_13, e192_16, e192_19, e192_20, e192_23, e192_24, e192_26, e192_29, e192_31, e192_32, e192_33, e192_36, e192_37, e192_40, e192_43, e192_44, e192_45, e192_48, e192_49, e192_50, e192_51, e192_52, e192_55, e192_56, e192_57, e192_60, e192_61, e192_64, e192_65, e192_66, e192_67, ↓reduceIte, gM_0, a_94, inb_n, ix_n, if_true, ne_eq, Nat.reduceEqDiff, not_false_eq_true, vM, clK_s, tl_s, tl_n, clr_i, clr_n, clr_a, nI_add, k_isSheet, k_in, rgL_c, tL_0, tL_1, tL_2, tL_3, tL_4, tL_5, tL_6, tL_7, tL_8, tL_19, tL_30, tL_48, tL_50, tL_57, tL_60, tL_97, tL_100, tL_122, tL_200, tL_99999, tL_m1, tL_m99999, hb, hq, bI_0, Bool.true_eq_false, Bool.false_eq_true, not_true_eq_false, not_false_eq_true, if_false, reduceCtorEq, hneg, hneg2, gM_4, gM_5, s_97, s_98]
      · have hneg : ¬ sv < nI 0 := fun z => hm (sn1.mp z)
        have hneg2 := sn2.mpr hm
        by_cases hbig : nv1 ≤ nI 24
        · by_cases hsm : nI 0 ≤ nv1
          · have i1 := Int32.le_iff_toInt_le.mp hbig
            have i2 := Int32.le_iff_toInt_le.mp hsm
            rw [nI_toInt (by omega)] at i1 i2
            obtain ⟨lz, hl, rfl⟩ := rg_e (n := 24) (xv := nv1) rfl (rg_iff.mpr ⟨by omega, by omega⟩)
            refine hfin lz hl ?_ ?_
            · simp (disch := omega) only [e83_0, e83_1, e83_2, e83_3, e83_6, e83_9, e83_10, e83_11, e83_12, e83_15, e83_18, e83_20, e83_21, e83_22, e83_23, e83_26, e83_27, e83_30, e83_31, e83_33, e83_35, e83_37, e83_40, e83_42, e83_43, e83_45, e83_48, ↓reduceIte, inb_n, ix_n, if_true, ne_eq, Nat.reduceEqDiff, not_false_eq_true, clK_s, tl_s, tl_n, clr_i, clr_n, clr_a, nI_add, c_isWithin, tI_0, tI_1, tI_2, tI_3, tI_4, tI_5, tI_6, tI_7, tI_8, tI_19, tI_20, tI_23, tI_24, tI_29, tI_30, tI_48, tI_50, tI_57, tI_60, tI_97, tI_100, tI_122, tI_200, tI_99999, tI_m1, tI_m99999, hb, hq, bI_0, Bool.true_eq_false, Bool.false_eq_true, not_true_eq_false, not_false_eq_true, if_false, reduceCtorEq, hm, hbig, hsm]
            · intro σ1
              simp (disch := omega) only [e192_0, e192_1, e192_4, e192_7, e192_8, e192_9, e192_12, e192_13, e192_16, e192_19, e192_20, e192_23, e192_24, e192_26, e192_29, e192_31, e192_32, e192_33, e192_36, e192_37, e192_40, e192_43, e192_44, e192_45, e192_48, e192_49, e192_50, e192_51, e192_52, e192_55, e192_56, e192_57, e192_60, e192_61, e192_64, e192_65, e192_66, e192_67, ↓reduceIte, gM_0, a_94, inb_n, ix_n, if_true, ne_eq, Nat.reduceEqDiff, not_false_eq_true, vM, clK_s, tl_s, tl_n, clr_i, clr_n, clr_a, nI_add, k_isSheet, k_in, rgL_c, tL_0, tL_1, tL_2, tL_3, tL_4, tL_5, tL_6, tL_7, tL_8, tL_19, tL_30, tL_48, tL_50, tL_57, tL_60, tL_97, tL_100, tL_122, tL_200, tL_99999, tL_m1, tL_m99999, hb, hq, bI_0, Bool.true_eq_false, Bool.false_eq_true, not_true_eq_false, not_false_eq_true, if_false, reduceCtorEq, hneg, hneg2, hbig, hsm, gM_4, gM_5, s_97, s_98]
          · refine ok_read (vv := (-1000000014)) hI ?_ ?_
            · simp (disch := omega) only [e83_0, e83_1, e83_2, e83_3, e83_6, e83_9, e83_10, e83_11, e83_12, e83_15, e83_18, e83_20, e83_21, e83_22, e83_23, e83_26, e83_27, e83_30, e83_31, e83_33, e83_35, e83_37, e83_40, e83_42, e83_43, e83_45, e83_48, e83_50, e83_51, e83_52, e83_55, e83_56, e83_57, e83_58, e83_60, e83_63, e83_65, ↓reduceIte, inb_n, ix_n, if_true, ne_eq, Nat.reduceEqDiff, not_false_eq_true, clK_s, tl_s, tl_n, clr_i, clr_n, clr_a, nI_add, c_isWithin, tI_0, tI_1, tI_2, tI_3, tI_4, tI_5, tI_6, tI_7, tI_8, tI_19, tI_20, tI_23, tI_24, tI_29, tI_30, tI_48, tI_50, tI_57, tI_60, tI_97, tI_100, tI_122, tI_200, tI_99999, tI_m1, tI_m99999, hb, hq, bI_0, Bool.true_eq_false, Bool.false_eq_true, not_true_eq_false, not_false_eq_true, if_false, reduceCtorEq, hm, hbig, hsm]
            · simp (disch := omega) only [e192_0, e192_1, e192_4, e192_7, e192_8, e192_9, e192_12, e192_13, e192_16, e192_19, e192_20, e192_23, e192_24, e192_26, e192_29, e192_31, e192_32, e192_33, e192_36, e192_37, e192_40, e192_43, ↓reduceIte, gM_0, a_94, inb_n, ix_n, if_true, ne_eq, Nat.reduceEqDiff, not_false_eq_true, vM, clK_s, tl_s, tl_n, clr_i, clr_n, clr_a, nI_add, k_isSheet, k_in, rgL_c, tL_0, tL_1, tL_2, tL_3, tL_4, tL_5, tL_6, tL_7, tL_8, tL_19, tL_30, tL_48, tL_50, tL_57, tL_60, tL_97, tL_100, tL_122, tL_200, tL_99999, tL_m1, tL_m99999, hb, hq, bI_0, Bool.true_eq_false, Bool.false_eq_true, not_true_eq_false, not_false_eq_true, if_false, reduceCtorEq, hneg, hbig, hsm]
        · refine ok_read (vv := (-1000000001)) hI ?_ ?_
          · simp (disch := omega) only [e83_0, e83_1, e83_2, e83_3, e83_6, e83_9, e83_10, e83_11, e83_12, e83_15, e83_18, e83_20, e83_21, e83_22, e83_23, e83_26, e83_27, e83_30, e83_31, e83_33, e83_35, e83_37, e83_40, e83_42, e83_43, e83_45, e83_48, e83_50, e83_51, e83_52, e83_55, e83_56, e83_57, e83_58, e83_60, e83_63, e83_65, ↓reduceIte, inb_n, ix_n, if_true, ne_eq, Nat.reduceEqDiff, not_false_eq_true, clK_s, tl_s, tl_n, clr_i, clr_n, clr_a, nI_add, c_isWithin, tI_0, tI_1, tI_2, tI_3, tI_4, tI_5, tI_6, tI_7, tI_8, tI_19, tI_20, tI_23, tI_24, tI_29, tI_30, tI_48, tI_50, tI_57, tI_60, tI_97, tI_100, tI_122, tI_200, tI_99999, tI_m1, tI_m99999, hb, hq, bI_0, Bool.true_eq_false, Bool.false_eq_true, not_true_eq_false, not_false_eq_true, if_false, reduceCtorEq, hm, hbig]
          · simp (disch := omega) only [e192_0, e192_1, e192_4, e192_7, e192_8, e192_9, e192_12, e192_13, e192_16, e192_19, e192_20, e192_23, e192_24, e192_26, e192_29, e192_31, e192_32, e192_33, e192_36, e192_37, e192_40, e192_43, ↓reduceIte, gM_0, a_94, inb_n, ix_n, if_true, ne_eq, Nat.reduceEqDiff, not_false_eq_true, vM, clK_s, tl_s, tl_n, clr_i, clr_n, clr_a, nI_add, k_isSheet, k_in, rgL_c, tL_0, tL_1, tL_2, tL_3, tL_4, tL_5, tL_6, tL_7, tL_8, tL_19, tL_30, tL_48, tL_50, tL_57, tL_60, tL_97, tL_100, tL_122, tL_200, tL_99999, tL_m1, tL_m99999, hb, hq, bI_0, Bool.true_eq_false, Bool.false_eq_true, not_true_eq_false, not_false_eq_true, if_false, reduceCtorEq, hneg, hbig]
end Sheets
