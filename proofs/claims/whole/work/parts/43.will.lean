/-! WHAT WILL BE: behind, vanishes, bumps -/
def vF (pq : Tn → Bool) : Nat → Tn → Nat → Option Nat
  | 0, _, _ => none
  | r + 1, T, kz => if pq T = true then some kz else vF pq r (spDay T) (kz + 1)
theorem vF_lt {pq : Tn → Bool} : ∀ {r : Nat} {T : Tn} {kz jz : Nat}, vF pq r T kz = some jz → kz ≤ jz ∧ jz < kz + r := by
  intro r
  induction r with
  | zero => intro T kz jz h; cases h
  | succ r ih =>
    intro T kz jz h
    unfold vF at h
    split at h
    · cases h; omega
    · have := ih h; omega
section Will
variable {E : aE} {d : Nat} {σ : Nat → Nat → Int32} {A B : Tn} {im : Bool}
theorem k_by (hM : MR (σ 94) A) (h8 : tN A ≤ 8) : ∃ σ2, Rn E d 153 0 [some (.ref 93), none] [] (shp, σ) = some (none, (shp, σ2)) ∧ Fr [106] σ σ2 ∧ LB (σ2 106) A := by
  obtain ⟨σ2, a1, a2, a3⟩ := k_laysBy (E := E) (d := d) (σ := σ)
  exact ⟨σ2, a1, a2, MR_51 hM h8 a3⟩
theorem k_back {T : Tn} (hM : MR (σ 94) T) (hX : tX T = tX A) (h8 : tN A ≤ 8) (hm : LB (σ 106) A) : ∃ σ2, Rn E d 154 0 [some (.ref 93), none] [] (shp, σ) = some (none, (shp, σ2)) ∧ Fr [94] σ σ2 ∧ MR (σ2 94) A := k_laysBack hM hX h8 hm
theorem op_behind {xv yv : Int32} (hI : INV σ A B im) : OK2 σ (Rn E (d + 50) 69 0 [some (.ref 0), some (.int xv), some (.int yv)] []) (Rn E (d + 50) 157 0 [some (.ref 93), some (.int xv), some (.int yv), none] []) := by
  obtain ⟨⟨hC, hM, hW, hX, hc, hR⟩, _⟩ := id hI
  have h8 := hW.1
  have e0 := hC.1
  have t2 : (nI (2 + tN A)).toInt = 2 + tN A := by rw [nI_toInt (by omega)]; omega
  cases hb : rg 0 100 xv with
  | false =>
    refine ok_read (vv := (-1000000001)) hI ?_ ?_
    · simp (disch := omega) only [e69_0, e69_1, e69_2, e69_4, e69_7, e69_10, e69_11, e69_12, e69_13, e69_14, e69_17, e69_20, e69_21, e69_24, e69_27, e69_29, ↓reduceIte, inb_n, ix_n, if_true, ne_eq, Nat.reduceEqDiff, not_false_eq_true, clK_s, tl_s, tl_n, clr_i, clr_n, clr_a, nI_add, c_isWithin, tI_0, tI_1, tI_2, tI_3, tI_4, tI_5, tI_6, tI_7, tI_8, tI_19, tI_20, tI_23, tI_24, tI_29, tI_30, tI_48, tI_50, tI_57, tI_60, tI_97, tI_100, tI_122, tI_200, tI_99999, tI_m1, tI_m99999, hb, bI_0, Bool.true_eq_false, Bool.false_eq_true, not_true_eq_false, not_false_eq_true, if_false, reduceCtorEq]
    · simp (disch := omega) only [e157_0, e157_1, e157_2, e157_3, e157_6, e157_9, e157_12, e157_13, e157_16, e157_17, e157_18, e157_21, e157_22, e157_23, e157_24, e157_25, e157_28, e157_31, e157_33, ↓reduceIte, gM_0, a_94, inb_n, ix_n, if_true, ne_eq, Nat.reduceEqDiff, not_false_eq_true, vM, clK_s, tl_s, tl_n, clr_i, clr_n, clr_a, nI_add, k_in, rgL_c, tL_0, tL_1, tL_2, tL_3, tL_4, tL_5, tL_6, tL_7, tL_8, tL_19, tL_30, tL_48, tL_50, tL_57, tL_60, tL_97, tL_100, tL_122, tL_200, tL_99999, tL_m1, tL_m99999, hb, bI_0, Bool.true_eq_false, Bool.false_eq_true, not_true_eq_false, not_false_eq_true, if_false, reduceCtorEq]
  | true =>
    obtain ⟨nz, hn, rfl⟩ := rg_e (n := 100) rfl hb
    cases hw : rg 0 (2 + tN A) yv with
    | false =>
      have hno := rg_no hw
      refine ok_read (vv := (-1000000001)) hI ?_ ?_
      · simp (disch := omega) only [e69_0, e69_1, e69_2, e69_4, e69_7, e69_10, e69_11, e69_12, e69_13, e69_14, e69_17, e69_20, e69_21, e69_24, e69_27, e69_29, ↓reduceIte, inb_n, ix_n, if_true, ne_eq, Nat.reduceEqDiff, not_false_eq_true, clK_s, tl_s, tl_n, clr_i, clr_n, clr_a, nI_add, c_isWithin, tI_0, tI_1, tI_2, tI_3, tI_4, tI_5, tI_6, tI_7, tI_8, tI_19, tI_20, tI_23, tI_24, tI_29, tI_30, tI_48, tI_50, tI_57, tI_60, tI_97, tI_100, tI_122, tI_200, tI_99999, tI_m1, tI_m99999, hb, gX_2, gT_0 t36, gT_1 t36, gT_2 t36, gT_3 t36, gT_4 t36, gT_5 t36, gT_6 t36, gT_7 t36, gT_8 t36, gT_9 t36, gT_10 t36, gT_11 t36, gT_12 t36, gT_13 t36, gT_14 t36, gT_15 t36, gT_16 t36, gT_17 t36, pT_10 t36, pT_11 t36, pT_12 t36, pT_13 t36, pT_14 t36, pT_15 t36, pT_16 t36, pT_17 t36, aT_1 t36, aT_2 t36, aT_3 t36, aT_4 t36, aT_5 t36, aT_6 t36, aT_7 t36, aT_8 t36, aT_9 t36, sT_1 t36, sT_2 t36, sT_3 t36, sT_4 t36, sT_5 t36, sT_6 t36, sT_7 t36, sT_8 t36, sT_9 t36, vT t36, e0, t2, hw, bI_0, Bool.true_eq_false, Bool.false_eq_true, not_true_eq_false, not_false_eq_true, if_false, reduceCtorEq]
      · by_cases hneg : yv < nI 0
        · simp (disch := omega) only [e157_0, e157_1, e157_2, e157_3, e157_6, e157_9, e157_12, e157_13, e157_16, e157_17, e157_18, e157_21, e157_22, e157_23, e157_24, e157_25, e157_28, e157_31, e157_33, ↓reduceIte, gM_0, a_94, inb_n, ix_n, if_true, ne_eq, Nat.reduceEqDiff, not_false_eq_true, vM, clK_s, tl_s, tl_n, clr_i, clr_n, clr_a, nI_add, k_in, rgL_c, tL_0, tL_1, tL_2, tL_3, tL_4, tL_5, tL_6, tL_7, tL_8, tL_19, tL_30, tL_48, tL_50, tL_57, tL_60, tL_97, tL_100, tL_122, tL_200, tL_99999, tL_m1, tL_m99999, hb, hneg, bI_0, Bool.true_eq_false, Bool.false_eq_true, not_true_eq_false, not_false_eq_true, if_false, reduceCtorEq]
        · have hyi : ¬ yv.toInt < 0 := fun z => hneg (by rw [Int32.lt_iff_toInt_lt, nI_toInt (by omega)]; exact z)
          have g2 : ¬ yv ≤ nI 2 := fun z => by have := Int32.le_iff_toInt_le.mp z; rw [nI_toInt (by omega)] at this; omega
          obtain ⟨wz, hwz, rfl⟩ : ∃ wz : Nat, wz < 2 ^ 31 ∧ yv = nI wz := by
            refine ⟨yv.toInt.toNat, ?_, ?_⟩
            · have := Int32.toInt_lt yv; omega
            · apply Int32.toInt_inj.mp
              have := Int32.toInt_lt yv
              rw [nI_toInt (by omega)]
              omega
          rw [nI_toInt hwz] at hno hyi
          have hh : hasB A (nI (wz - 3)) = false := by rw [hasB_n (by omega)]; exact decide_eq_false (by omega)
          simp (disch := omega) only [e157_0, e157_1, e157_2, e157_3, e157_6, e157_9, e157_12, e157_13, e157_16, e157_17, e157_18, e157_21, e157_22, e157_23, e157_24, e157_25, e157_28, e157_31, e157_33, ↓reduceIte, gM_0, a_94, inb_n, ix_n, if_true, ne_eq, Nat.reduceEqDiff, not_false_eq_true, vM, clK_s, tl_s, tl_n, clr_i, clr_n, clr_a, nI_add, k_in, rgL_c, tL_0, tL_1, tL_2, tL_3, tL_4, tL_5, tL_6, tL_7, tL_8, tL_19, tL_30, tL_48, tL_50, tL_57, tL_60, tL_97, tL_100, tL_122, tL_200, tL_99999, tL_m1, tL_m99999, hb, hneg, g2, pk_sub, k_isOne hM h8, hh, bI_0, Bool.true_eq_false, Bool.false_eq_true, not_true_eq_false, not_false_eq_true, if_false, reduceCtorEq]
    | true =>
      obtain ⟨wz, hwz, rfl⟩ := rg_e (n := 2 + tN A) (by omega) hw
      obtain ⟨σ1, a1, a2, a3⟩ := c_takes (E := E) (d := d + 48) t56 t36 (by decide) hC h8
      have hR1 := hR.ft hX.1 (by omega) a2
      obtain ⟨σ2, b1, b2, b3⟩ := c_live (E := E) (d := d + 44) (nz := nz) (by omega) t56 a3 hW hX hR1
      have ft := a2.tr b2
      have hC2 : CR σ2 36 A := hC.ext (fun a h1 h2 _ => ft a (by omega) (by omega))
      have hM2 : MR (σ2 94) A := by rw [ft 94 (by omega) (by omega)]; exact hM
      obtain ⟨o1, o2, o3, o4, o5⟩ := days_k (r := nz) hW
      obtain ⟨σ3, p1, p2, p3⟩ := k_by (E := E) (d := d + 49) hM2 h8
      have hM3 : MR (σ3 94) A := by rw [p2 94 (by decide)]; exact hM2
      obtain ⟨σ4, q1, q2, q3⟩ := k_goesOnMany (E := E) (d := d + 42) (nz := nz) (by omega) hM3 hW hX
      have lb4 : LB (σ4 106) A := by rw [q2 106 (by decide)]; exact p3
      obtain ⟨σ5, r1, r2, r3⟩ := k_back (E := E) (d := d + 49) q3 o3 h8 lb4
      have fr5 : Fr [94, 96, 105, 106, 108, 109, 110, 112] σ2 σ5 := ((p2.mono (by decide)).tr (q2.mono (by decide))).tr (r2.mono (by decide))
      have hres : ∀ vv, Rn E (d + 50) 69 49 [some (.ref 0), some (.int (nI nz)), some (.int (nI wz))] [] (shp, σ2) = some (some (.int vv), (shp, σ2)) → Rn E (d + 50) 157 43 [some (.ref 93), some (.int (nI nz)), some (.int (nI wz)), none] [] (shp, σ4) = Rn E (d + 50) 157 67 [some (.ref 93), some (.int (nI nz)), some (.int (nI wz)), none] [.int vv] (shp, σ4) → OK2 σ (Rn E (d + 50) 69 0 [some (.ref 0), some (.int (nI nz)), some (.int (nI wz))] []) (Rn E (d + 50) 157 0 [some (.ref 93), some (.int (nI nz)), some (.int (nI wz)), none] []) := by
        intro vv g1 g2
        have hneg : ¬ nI wz < nI 0 := nI_nn (by omega)
        refine ⟨vv, σ2, σ5, A, B, im, ?_, ?_, hI.same ((QT.f56 ft).tr (QT.fr fr5)) (hC2.ext (fun a h1 h2 _ => fr5 a (by simp; omega))) r3⟩
        · simp (disch := omega) only [e69_0, e69_1, e69_2, e69_4, e69_7, e69_10, e69_11, e69_12, e69_13, e69_14, e69_17, e69_20, e69_21, e69_24, e69_27, e69_29, e69_30, e69_31, e69_34, e69_35, e69_38, e69_41, e69_42, e69_45, e69_46, ↓reduceIte, inb_n, ix_n, if_true, ne_eq, Nat.reduceEqDiff, not_false_eq_true, clK_s, tl_s, tl_n, clr_i, clr_n, clr_a, nI_add, c_isWithin, tI_0, tI_1, tI_2, tI_3, tI_4, tI_5, tI_6, tI_7, tI_8, tI_19, tI_20, tI_23, tI_24, tI_29, tI_30, tI_48, tI_50, tI_57, tI_60, tI_97, tI_100, tI_122, tI_200, tI_99999, tI_m1, tI_m99999, hb, gX_2, gX_4, gT_0 t36, gT_1 t36, gT_2 t36, gT_3 t36, gT_4 t36, gT_5 t36, gT_6 t36, gT_7 t36, gT_8 t36, gT_9 t36, gT_10 t36, gT_11 t36, gT_12 t36, gT_13 t36, gT_14 t36, gT_15 t36, gT_16 t36, gT_17 t36, pT_10 t36, pT_11 t36, pT_12 t36, pT_13 t36, pT_14 t36, pT_15 t36, pT_16 t36, pT_17 t36, aT_1 t36, aT_2 t36, aT_3 t36, aT_4 t36, aT_5 t36, aT_6 t36, aT_7 t36, aT_8 t36, aT_9 t36, sT_1 t36, sT_2 t36, sT_3 t36, sT_4 t36, sT_5 t36, sT_6 t36, sT_7 t36, sT_8 t36, sT_9 t36, vT t36, vT t56, e0, t2, hw, bI_0, Bool.true_eq_false, Bool.false_eq_true, not_true_eq_false, not_false_eq_true, if_false, reduceCtorEq, a1, b1]
          exact g1
        · have hin : Rn E (d + 50) 157 0 [some (.ref 93), some (.int (nI nz)), some (.int (nI wz)), none] [] (shp, σ2) = Rn E (d + 50) 157 34 [some (.ref 93), some (.int (nI nz)), some (.int (nI wz)), none] [] (shp, σ2) := by
            by_cases h3 : wz ≤ 2
            · simp (disch := omega) only [e157_0, e157_1, e157_2, e157_3, e157_6, e157_9, e157_12, e157_13, e157_16, e157_17, e157_18, e157_21, e157_22, e157_23, e157_24, e157_25, e157_28, e157_31, e157_33, ↓reduceIte, gM_0, a_94, inb_n, ix_n, if_true, ne_eq, Nat.reduceEqDiff, not_false_eq_true, vM, clK_s, tl_s, tl_n, clr_i, clr_n, clr_a, nI_add, k_in, rgL_c, tL_0, tL_1, tL_2, tL_3, tL_4, tL_5, tL_6, tL_7, tL_8, tL_19, tL_30, tL_48, tL_50, tL_57, tL_60, tL_97, tL_100, tL_122, tL_200, tL_99999, tL_m1, tL_m99999, hb, hneg, bI_0, Bool.true_eq_false, Bool.false_eq_true, not_true_eq_false, not_false_eq_true, if_false, reduceCtorEq, nI_leI, h3]
            · have hh : hasB A (nI (wz - 3)) = true := by rw [hasB_n (by omega)]; exact decide_eq_true (by omega)
              simp (disch := omega) only [e157_0, e157_1, e157_2, e157_3, e157_6, e157_9, e157_12, e157_13, e157_16, e157_17, e157_18, e157_21, e157_22, e157_23, e157_24, e157_25, e157_28, e157_31, e157_33, ↓reduceIte, gM_0, a_94, inb_n, ix_n, if_true, ne_eq, Nat.reduceEqDiff, not_false_eq_true, vM, clK_s, tl_s, tl_n, clr_i, clr_n, clr_a, nI_add, k_in, rgL_c, tL_0, tL_1, tL_2, tL_3, tL_4, tL_5, tL_6, tL_7, tL_8, tL_19, tL_30, tL_48, tL_50, tL_57, tL_60, tL_97, tL_100, tL_122, tL_200, tL_99999, tL_m1, tL_m99999, hb, hneg, bI_0, Bool.true_eq_false, Bool.false_eq_true, not_true_eq_false, not_false_eq_true, if_false, reduceCtorEq, nI_leI, h3, pk_sub, k_isOne hM2 h8, hh]
          rw [hin]
          simp (disch := omega) only [e157_34, e157_35, e157_38, e157_39, e157_40, ↓reduceIte, gM_0, a_94, inb_n, ix_n, if_true, ne_eq, Nat.reduceEqDiff, not_false_eq_true, vM, clK_s, tl_s, tl_n, clr_i, clr_n, clr_a, nI_add, p1, q1]
          rw [g2]
          simp (disch := omega) only [e157_67, e157_68, e157_69, e157_72, e157_73, ↓reduceIte, gM_0, a_94, inb_n, ix_n, if_true, ne_eq, Nat.reduceEqDiff, not_false_eq_true, vM, clK_s, tl_s, tl_n, clr_i, clr_n, clr_a, nI_add, r1]
      have m := q3.2.2.1
      match wz, hwz with
      | 0, _ =>
        have g := b3.gl
        have m3 := m 3 (by omega) (by omega)
        have q0 : ¬ 3 ≤ 0 := by omega
        refine hres (tC (spDays nz A) 3) ?_ ?_
        · rw [e69_49, e69_50, swZ_n (by decide) (by decide)]
          show Rn E (d + 50) 69 76 _ _ _ = _
          simp (disch := omega) only [e69_76, e69_77, e69_80, e69_83, e69_84, e69_85, e69_88, e69_91, e69_92, e69_93, e69_96, e69_99, e69_100, e69_101, e69_104, e69_107, e69_108, e69_109, e69_110, e69_111, ↓reduceIte, inb_n, ix_n, if_true, ne_eq, Nat.reduceEqDiff, not_false_eq_true, clK_s, tl_s, tl_n, clr_i, clr_n, clr_a, nI_add, gX_4, gT_0 t56, gT_1 t56, gT_2 t56, gT_3 t56, gT_4 t56, gT_5 t56, gT_6 t56, gT_7 t56, gT_8 t56, gT_9 t56, gT_10 t56, gT_11 t56, gT_12 t56, gT_13 t56, gT_14 t56, gT_15 t56, gT_16 t56, gT_17 t56, pT_10 t56, pT_11 t56, pT_12 t56, pT_13 t56, pT_14 t56, pT_15 t56, pT_16 t56, pT_17 t56, aT_1 t56, aT_2 t56, aT_3 t56, aT_4 t56, aT_5 t56, aT_6 t56, aT_7 t56, aT_8 t56, aT_9 t56, sT_1 t56, sT_2 t56, sT_3 t56, sT_4 t56, sT_5 t56, sT_6 t56, sT_7 t56, sT_8 t56, sT_9 t56, vT t56, g]
        · simp (disch := omega) only [e157_43, e157_44, e157_45, e157_48, e157_49, e157_52, e157_53, e157_54, e157_55, e157_56, e157_59, e157_60, e157_61, e157_62, e157_63, e157_64, ↓reduceIte, gM_0, a_94, inb_n, ix_n, if_true, ne_eq, Nat.reduceEqDiff, not_false_eq_true, vM, clK_s, tl_s, tl_n, clr_i, clr_n, clr_a, nI_add, nI_leI, q0, Nat.add_zero, m3]
      | 1, _ =>
        have g := b3.va
        have m3 := m 4 (by omega) (by omega)
        have q0 : ¬ 3 ≤ 1 := by omega
        refine hres (tC (spDays nz A) 4) ?_ ?_
        · rw [e69_49, e69_50, swZ_n (by decide) (by decide)]
          show Rn E (d + 50) 69 84 _ _ _ = _
          simp (disch := omega) only [e69_76, e69_77, e69_80, e69_83, e69_84, e69_85, e69_88, e69_91, e69_92, e69_93, e69_96, e69_99, e69_100, e69_101, e69_104, e69_107, e69_108, e69_109, e69_110, e69_111, ↓reduceIte, inb_n, ix_n, if_true, ne_eq, Nat.reduceEqDiff, not_false_eq_true, clK_s, tl_s, tl_n, clr_i, clr_n, clr_a, nI_add, gX_4, gT_0 t56, gT_1 t56, gT_2 t56, gT_3 t56, gT_4 t56, gT_5 t56, gT_6 t56, gT_7 t56, gT_8 t56, gT_9 t56, gT_10 t56, gT_11 t56, gT_12 t56, gT_13 t56, gT_14 t56, gT_15 t56, gT_16 t56, gT_17 t56, pT_10 t56, pT_11 t56, pT_12 t56, pT_13 t56, pT_14 t56, pT_15 t56, pT_16 t56, pT_17 t56, aT_1 t56, aT_2 t56, aT_3 t56, aT_4 t56, aT_5 t56, aT_6 t56, aT_7 t56, aT_8 t56, aT_9 t56, sT_1 t56, sT_2 t56, sT_3 t56, sT_4 t56, sT_5 t56, sT_6 t56, sT_7 t56, sT_8 t56, sT_9 t56, vT t56, g]
        · simp (disch := omega) only [e157_43, e157_44, e157_45, e157_48, e157_49, e157_52, e157_53, e157_54, e157_55, e157_56, e157_59, e157_60, e157_61, e157_62, e157_63, e157_64, ↓reduceIte, gM_0, a_94, inb_n, ix_n, if_true, ne_eq, Nat.reduceEqDiff, not_false_eq_true, vM, clK_s, tl_s, tl_n, clr_i, clr_n, clr_a, nI_add, nI_leI, q0, Nat.reduceAdd, m3]
      | 2, _ =>
        have g := b3.bu
        have m3 := m 5 (by omega) (by omega)
        have q0 : ¬ 3 ≤ 2 := by omega
        refine hres (tC (spDays nz A) 5) ?_ ?_
        · rw [e69_49, e69_50, swZ_n (by decide) (by decide)]
          show Rn E (d + 50) 69 92 _ _ _ = _
          simp (disch := omega) only [e69_76, e69_77, e69_80, e69_83, e69_84, e69_85, e69_88, e69_91, e69_92, e69_93, e69_96, e69_99, e69_100, e69_101, e69_104, e69_107, e69_108, e69_109, e69_110, e69_111, ↓reduceIte, inb_n, ix_n, if_true, ne_eq, Nat.reduceEqDiff, not_false_eq_true, clK_s, tl_s, tl_n, clr_i, clr_n, clr_a, nI_add, gX_4, gT_0 t56, gT_1 t56, gT_2 t56, gT_3 t56, gT_4 t56, gT_5 t56, gT_6 t56, gT_7 t56, gT_8 t56, gT_9 t56, gT_10 t56, gT_11 t56, gT_12 t56, gT_13 t56, gT_14 t56, gT_15 t56, gT_16 t56, gT_17 t56, pT_10 t56, pT_11 t56, pT_12 t56, pT_13 t56, pT_14 t56, pT_15 t56, pT_16 t56, pT_17 t56, aT_1 t56, aT_2 t56, aT_3 t56, aT_4 t56, aT_5 t56, aT_6 t56, aT_7 t56, aT_8 t56, aT_9 t56, sT_1 t56, sT_2 t56, sT_3 t56, sT_4 t56, sT_5 t56, sT_6 t56, sT_7 t56, sT_8 t56, sT_9 t56, vT t56, g]
        · simp (disch := omega) only [e157_43, e157_44, e157_45, e157_48, e157_49, e157_52, e157_53, e157_54, e157_55, e157_56, e157_59, e157_60, e157_61, e157_62, e157_63, e157_64, ↓reduceIte, gM_0, a_94, inb_n, ix_n, if_true, ne_eq, Nat.reduceEqDiff, not_false_eq_true, vM, clK_s, tl_s, tl_n, clr_i, clr_n, clr_a, nI_add, nI_leI, q0, Nat.reduceAdd, m3]
      | kz + 3, hwz =>
        have hk : kz < tN A := by omega
        have g := b3.k2 (kz := kz) (by rw [o2]; exact hk)
        have m3 := q3.2.1 kz (by rw [o2]; exact hk) 2 (by omega)
        have q0 : 3 ≤ kz + 3 := by omega
        refine hres (tF (spDays nz A) kz 2) ?_ ?_
        · rw [e69_49, e69_50, swZ_no (by decide) (Or.inr (by rw [nI_toInt (by omega)]; simp; omega))]
          simp (disch := omega) only [e69_100, e69_101, e69_104, e69_107, e69_108, e69_109, e69_110, e69_111, ↓reduceIte, inb_n, ix_n, if_true, ne_eq, Nat.reduceEqDiff, not_false_eq_true, clK_s, tl_s, tl_n, clr_i, clr_n, clr_a, nI_add, gX_4, gT_0 t56, gT_1 t56, gT_2 t56, gT_3 t56, gT_4 t56, gT_5 t56, gT_6 t56, gT_7 t56, gT_8 t56, gT_9 t56, gT_10 t56, gT_11 t56, gT_12 t56, gT_13 t56, gT_14 t56, gT_15 t56, gT_16 t56, gT_17 t56, pT_10 t56, pT_11 t56, pT_12 t56, pT_13 t56, pT_14 t56, pT_15 t56, pT_16 t56, pT_17 t56, aT_1 t56, aT_2 t56, aT_3 t56, aT_4 t56, aT_5 t56, aT_6 t56, aT_7 t56, aT_8 t56, aT_9 t56, sT_1 t56, sT_2 t56, sT_3 t56, sT_4 t56, sT_5 t56, sT_6 t56, sT_7 t56, sT_8 t56, sT_9 t56, vT t56, pk_sub, Nat.add_sub_cancel, g]
        · simp (disch := omega) only [e157_43, e157_44, e157_45, e157_48, e157_49, e157_52, e157_53, e157_54, e157_55, e157_56, e157_59, e157_60, e157_61, e157_62, e157_63, e157_64, ↓reduceIte, gM_0, a_94, inb_n, ix_n, if_true, ne_eq, Nat.reduceEqDiff, not_false_eq_true, vM, clK_s, tl_s, tl_n, clr_i, clr_n, clr_a, nI_add, nI_leI, q0, pk_sub, Nat.add_sub_cancel, k_of, m3]
theorem c_first_l {oz : Nat} {lv hv : Int32} {pq : Tn → Bool} (h8 : tN A ≤ 8) (hk : oz < tN A) (hpq : ∀ T, WFp T → tN T = tN A → tC T 6 = tC A 6 → rg lv.toInt hv.toInt (tF T oz 2) = pq T) : ∀ r kz (T U : Tn) (σ1 : Nat → Nat → Int32), kz + r = 201 → ((kz = 0 ∧ U = T) ∨ (0 < kz ∧ spDay U = T)) → CR σ1 56 U → WFp U → WFx U → TR σ1 (tX U) → tN U = tN A → tC U 6 = tC A 6 →
    ∃ σ2, Rn E (d + 6) 101 14 [some (.ref 0), some (.int (nI oz)), some (.int lv), some (.int hv), some (.int (nI kz))] [] (shp, σ1) = some (some (.int (oM (vF pq r T kz))), (shp, σ2)) ∧ FT 56 σ1 σ2 := by
  intro r
  induction r with
  | zero =>
    intro kz T U σ1 hkr hU hC hW hX hR hN h6
    have h1 : 200 < kz := by omega
    refine ⟨σ1, ?_, FT.rf⟩
    simp (disch := omega) only [e101_14, e101_16, e101_19, e101_22, e101_24, e101_27, e101_28, e101_31, e101_32, e101_35, e101_36, e101_39, e101_42, e101_43, e101_44, e101_45, e101_46, e101_49, e101_52, e101_54, e101_55, e101_58, e101_61, e101_63, nI_ltI, h1, if_true, vF, oM]
  | succ r ih =>
    intro kz T U σ1 hkr hU hC hW hX hR hN h6
    have h1 : ¬ 200 < kz := by omega
    have hlive : ∃ σ2, Rn E (d + 6) 101 14 [some (.ref 0), some (.int (nI oz)), some (.int lv), some (.int hv), some (.int (nI kz))] [] (shp, σ1) = Rn E (d + 6) 101 35 [some (.ref 0), some (.int (nI oz)), some (.int lv), some (.int hv), some (.int (nI kz))] [] (shp, σ2) ∧ FT 56 σ1 σ2 ∧ CR σ2 56 T ∧ WFp T ∧ WFx T ∧ TR σ2 (tX T) ∧ tN T = tN A ∧ tC T 6 = tC A 6 := by
      rcases hU with ⟨h0, rfl⟩ | ⟨h0, rfl⟩
      · have h2 : kz ≤ 0 := by omega
        refine ⟨σ1, ?_, FT.rf, hC, hW, hX, hR, hN, h6⟩
        rw [e101_14]
        simp (disch := omega) only [e101_16, e101_19, e101_22, e101_24, e101_27, e101_28, e101_31, e101_32, ↓reduceIte, inb_n, ix_n, if_true, ne_eq, Nat.reduceEqDiff, not_false_eq_true, clK_s, tl_s, tl_n, clr_i, clr_n, clr_a, nI_add, nI_ltI, h1, nI_leI, h2]
      · have h2 : ¬ kz ≤ 0 := by omega
        obtain ⟨σ2, a1, a2, a3⟩ := c_live (E := E) (d := d) (nz := 1) (by omega) t56 hC hW hX hR
        obtain ⟨g1, g2, g3, g4⟩ := day_k (A := U)
        refine ⟨σ2, ?_, a2, a3, WFp_day hW, WFx_of g2 hX, ?_, g1.trans hN, (g3 6 (by omega) (by omega)).trans h6⟩
        · rw [e101_14]
          simp (disch := omega) only [e101_16, e101_19, e101_22, e101_24, e101_27, e101_28, e101_31, e101_32, ↓reduceIte, inb_n, ix_n, if_true, ne_eq, Nat.reduceEqDiff, not_false_eq_true, clK_s, tl_s, tl_n, clr_i, clr_n, clr_a, nI_add, nI_ltI, h1, nI_leI, h2, gX_4, vT t56, a1]
        · rw [g2]; exact hR.ft hX.1 (by omega) a2
    obtain ⟨σ2, v1, v2, v3, v4, v5, v6, v7, v8⟩ := hlive
    rw [v1]
    have p2 := v3.k2 (kz := oz) (by rw [v7]; exact hk)
    simp (disch := omega) only [e101_35, e101_36, e101_39, e101_42, e101_43, e101_44, e101_45, e101_46, e101_49, ↓reduceIte, inb_n, ix_n, if_true, ne_eq, Nat.reduceEqDiff, not_false_eq_true, clK_s, tl_s, tl_n, clr_i, clr_n, clr_a, nI_add, gX_4, gT_0 t56, gT_1 t56, gT_2 t56, gT_3 t56, gT_4 t56, gT_5 t56, gT_6 t56, gT_7 t56, gT_8 t56, gT_9 t56, gT_10 t56, gT_11 t56, gT_12 t56, gT_13 t56, gT_14 t56, gT_15 t56, gT_16 t56, gT_17 t56, pT_10 t56, pT_11 t56, pT_12 t56, pT_13 t56, pT_14 t56, pT_15 t56, pT_16 t56, pT_17 t56, aT_1 t56, aT_2 t56, aT_3 t56, aT_4 t56, aT_5 t56, aT_6 t56, aT_7 t56, aT_8 t56, aT_9 t56, sT_1 t56, sT_2 t56, sT_3 t56, sT_4 t56, sT_5 t56, sT_6 t56, sT_7 t56, sT_8 t56, sT_9 t56, vT t56, p2, c_isWithin, hpq T v4 v7 v8, bI_0]
    unfold vF
    cases hq : pq T with
    | true =>
      simp only [Bool.true_eq_false, if_false, if_true, e101_52, e101_54]
      exact ⟨σ2, rfl, v2⟩
    | false =>
      simp only [Bool.false_eq_true, if_false, if_true, e101_55, e101_58, ↓reduceIte, inb_n, ix_n, if_true, ne_eq, Nat.reduceEqDiff, not_false_eq_true, clK_s, tl_s, tl_n, clr_i, clr_n, clr_a, nI_add]
      obtain ⟨σ3, g1, g2⟩ := ih (kz + 1) (spDay T) T σ2 (by omega) (Or.inr ⟨by omega, rfl⟩) v3 v4 v5 v6 v7 v8
      exact ⟨σ3, g1, v2.tr g2⟩
theorem k_van_l {oz : Nat} (h8 : tN A ≤ 8) (hk : oz < tN A) : ∀ r kz (T : Tn) (σ1 : Nat → Nat → Int32), kz + r = 201 → MR (σ1 94) T → WFp T → WFx T → tN T = tN A → tX T = tX A → LB (σ1 106) A →
    ∃ σ2, Rn E (d + 7) 158 17 [some (.ref 93), some (.int (nI oz)), some (.int (nI kz))] [] (shp, σ1) = some (some (.int (oM (vF (fun U => decide (¬ nI 0 < tF U oz 2)) r T kz))), (shp, σ2)) ∧ Fr [94, 105, 108, 109] σ1 σ2 ∧ MR (σ2 94) A := by
  intro r
  induction r with
  | zero =>
    intro kz T σ1 hkr hM hW hX hN hx hl
    have h1 : 200 < kz := by omega
    obtain ⟨σ2, a1, a2, a3⟩ := k_back (E := E) (d := d + 6) hM hx h8 hl
    refine ⟨σ2, ?_, a2.mono (by decide), a3⟩
    rw [e158_17]
    simp (disch := omega) only [e158_18, e158_21, e158_24, e158_25, e158_26, e158_27, e158_30, e158_33, e158_34, e158_37, e158_40, e158_43, e158_44, e158_47, e158_48, e158_51, e158_54, e158_55, e158_58, e158_60, ↓reduceIte, gM_0, a_94, inb_n, ix_n, if_true, ne_eq, Nat.reduceEqDiff, not_false_eq_true, vM, clK_s, tl_s, tl_n, clr_i, clr_n, clr_a, nI_add, nI_ltI, h1, a1, vF, oM]
  | succ r ih =>
    intro kz T σ1 hkr hM hW hX hN hx hl
    have h1 : ¬ 200 < kz := by omega
    have f2 := hM.2.1 oz (by rw [hN]; exact hk) 2 (by omega)
    unfold vF
    by_cases hz : nI 0 < tF T oz 2
    · have hz2 : ¬ tF T oz 2 ≤ nI 0 := Int32.not_le.mpr hz
      obtain ⟨σ2, a1, a2, a3⟩ := k_goesOn (E := E) (d := d) hM hW hX
      obtain ⟨g1, g2, g3, g4⟩ := day_k (A := T)
      obtain ⟨σ3, b1, b2, b3⟩ := ih (kz + 1) (spDay T) σ2 (by omega) a3 (WFp_day hW) (WFx_of g2 hX) (g1.trans hN) (g2.trans hx) (by rw [a2 106 (by decide)]; exact hl)
      refine ⟨σ3, ?_, a2.tr b2, b3⟩
      rw [if_neg (by simp [hz]), ← b1, e158_17]
      simp (disch := omega) only [e158_18, e158_21, e158_24, e158_25, e158_26, e158_27, e158_30, e158_33, e158_34, e158_37, e158_40, ↓reduceIte, gM_0, a_94, inb_n, ix_n, if_true, ne_eq, Nat.reduceEqDiff, not_false_eq_true, vM, clK_s, tl_s, tl_n, clr_i, clr_n, clr_a, nI_add, nI_ltI, h1, k_of, f2, hz2, a1]
    · have hz2 : tF T oz 2 ≤ nI 0 := Int32.not_lt.mp hz
      obtain ⟨σ2, a1, a2, a3⟩ := k_back (E := E) (d := d + 6) hM hx h8 hl
      refine ⟨σ2, ?_, a2.mono (by decide), a3⟩
      rw [if_pos (by simp [hz]), e158_17]
      simp (disch := omega) only [e158_18, e158_21, e158_24, e158_25, e158_26, e158_27, e158_30, e158_33, e158_34, e158_37, e158_40, e158_43, e158_44, e158_47, e158_48, e158_51, e158_54, e158_55, e158_58, e158_60, ↓reduceIte, gM_0, a_94, inb_n, ix_n, if_true, ne_eq, Nat.reduceEqDiff, not_false_eq_true, vM, clK_s, tl_s, tl_n, clr_i, clr_n, clr_a, nI_add, nI_ltI, h1, k_of, f2, hz2, a1, oM]
theorem k_bum_l {oz : Nat} (h8 : tN A ≤ 8) (hk : oz < tN A) : ∀ r kz (T : Tn) (σ1 : Nat → Nat → Int32), kz + r = 201 → MR (σ1 94) T → WFp T → WFx T → tN T = tN A → tX T = tX A → LB (σ1 106) A →
    ∃ σ2, Rn E (d + 7) 159 17 [some (.ref 93), some (.int (nI oz)), some (.int (nI kz))] [] (shp, σ1) = some (some (.int (oM (vF (fun U => decide (tC U 6 < tF U oz 2)) r T kz))), (shp, σ2)) ∧ Fr [94, 105, 108, 109] σ1 σ2 ∧ MR (σ2 94) A := by
  intro r
  induction r with
  | zero =>
    intro kz T σ1 hkr hM hW hX hN hx hl
    have h1 : 200 < kz := by omega
    obtain ⟨σ2, a1, a2, a3⟩ := k_back (E := E) (d := d + 6) hM hx h8 hl
    refine ⟨σ2, ?_, a2.mono (by decide), a3⟩
    rw [e159_17]
    simp (disch := omega) only [e159_18, e159_21, e159_24, e159_25, e159_26, e159_27, e159_30, e159_31, e159_34, e159_36, e159_37, e159_40, e159_41, e159_44, e159_47, e159_50, e159_51, e159_54, e159_55, e159_58, e159_61, e159_62, e159_65, e159_67, ↓reduceIte, gM_0, a_94, inb_n, ix_n, if_true, ne_eq, Nat.reduceEqDiff, not_false_eq_true, vM, clK_s, tl_s, tl_n, clr_i, clr_n, clr_a, nI_add, nI_ltI, h1, a1, vF, oM]
  | succ r ih =>
    intro kz T σ1 hkr hM hW hX hN hx hl
    have h1 : ¬ 200 < kz := by omega
    have f2 := hM.2.1 oz (by rw [hN]; exact hk) 2 (by omega)
    have m6 := hM.2.2.1 6 (by omega) (by omega)
    unfold vF
    by_cases hz : tC T 6 < tF T oz 2
    · obtain ⟨σ2, a1, a2, a3⟩ := k_back (E := E) (d := d + 6) hM hx h8 hl
      refine ⟨σ2, ?_, a2.mono (by decide), a3⟩
      rw [if_pos (by simp [hz]), e159_17]
      simp (disch := omega) only [e159_18, e159_21, e159_24, e159_25, e159_26, e159_27, e159_30, e159_31, e159_34, e159_36, e159_37, e159_40, e159_41, e159_44, e159_47, e159_50, e159_51, e159_54, e159_55, e159_58, e159_61, e159_62, e159_65, e159_67, ↓reduceIte, gM_0, a_94, inb_n, ix_n, if_true, ne_eq, Nat.reduceEqDiff, not_false_eq_true, vM, clK_s, tl_s, tl_n, clr_i, clr_n, clr_a, nI_add, nI_ltI, h1, k_of, f2, m6, hz, a1, oM]
    · obtain ⟨σ2, a1, a2, a3⟩ := k_goesOn (E := E) (d := d) hM hW hX
      obtain ⟨g1, g2, g3, g4⟩ := day_k (A := T)
      obtain ⟨σ3, b1, b2, b3⟩ := ih (kz + 1) (spDay T) σ2 (by omega) a3 (WFp_day hW) (WFx_of g2 hX) (g1.trans hN) (g2.trans hx) (by rw [a2 106 (by decide)]; exact hl)
      refine ⟨σ3, ?_, a2.tr b2, b3⟩
      rw [if_neg (by simp [hz]), ← b1, e159_17]
      simp (disch := omega) only [e159_18, e159_21, e159_24, e159_25, e159_26, e159_27, e159_30, e159_31, e159_34, e159_36, e159_37, e159_40, e159_41, e159_44, e159_47, ↓reduceIte, gM_0, a_94, inb_n, ix_n, if_true, ne_eq, Nat.reduceEqDiff, not_false_eq_true, vM, clK_s, tl_s, tl_n, clr_i, clr_n, clr_a, nI_add, nI_ltI, h1, k_of, f2, m6, hz, a1]
theorem op_vanishes {xv : Int32} (hI : INV σ A B im) : OK2 σ (Rn E (d + 50) 70 0 [some (.ref 0), some (.int xv)] []) (Rn E (d + 50) 158 0 [some (.ref 93), some (.int xv), none] []) := by
  obtain ⟨⟨hC, hM, hW, hX, hc, hR⟩, _⟩ := id hI
  have h8 := hW.1
  cases ho : hasB A xv with
  | false =>
    refine ok_read (vv := (-1000000001)) hI ?_ ?_
    · simp (disch := omega) only [e70_0, e70_1, e70_4, e70_5, e70_8, e70_11, e70_12, e70_13, e70_14, e70_15, e70_18, e70_21, e70_23, ↓reduceIte, inb_n, ix_n, if_true, ne_eq, Nat.reduceEqDiff, not_false_eq_true, clK_s, tl_s, tl_n, clr_i, clr_n, clr_a, nI_add, gX_2, gT_0 t36, gT_1 t36, gT_2 t36, gT_3 t36, gT_4 t36, gT_5 t36, gT_6 t36, gT_7 t36, gT_8 t36, gT_9 t36, gT_10 t36, gT_11 t36, gT_12 t36, gT_13 t36, gT_14 t36, gT_15 t36, gT_16 t36, gT_17 t36, pT_10 t36, pT_11 t36, pT_12 t36, pT_13 t36, pT_14 t36, pT_15 t36, pT_16 t36, pT_17 t36, aT_1 t36, aT_2 t36, aT_3 t36, aT_4 t36, aT_5 t36, aT_6 t36, aT_7 t36, aT_8 t36, aT_9 t36, sT_1 t36, sT_2 t36, sT_3 t36, sT_4 t36, sT_5 t36, sT_6 t36, sT_7 t36, sT_8 t36, sT_9 t36, vT t36, c_has t36 hC h8, ho, bI_0, Bool.true_eq_false, Bool.false_eq_true, not_true_eq_false, not_false_eq_true, if_false, reduceCtorEq]
    · simp (disch := omega) only [e158_0, e158_1, e158_2, e158_5, e158_8, e158_10, ↓reduceIte, gM_0, a_94, inb_n, ix_n, if_true, ne_eq, Nat.reduceEqDiff, not_false_eq_true, vM, clK_s, tl_s, tl_n, clr_i, clr_n, clr_a, nI_add, k_isOne hM h8, ho, bI_0, Bool.true_eq_false, Bool.false_eq_true, not_true_eq_false, not_false_eq_true, if_false, reduceCtorEq]
  | true =>
    obtain ⟨kz, hk, rfl⟩ := hasB_ex ho
    obtain ⟨σ1, a1, a2, a3⟩ := c_takes (E := E) (d := d + 47) t56 t36 (by decide) hC h8
    have hR1 := hR.ft hX.1 (by omega) a2
    obtain ⟨σ2, b1, b2⟩ := c_first_l (E := E) (d := d + 43) (A := A) (oz := kz) (lv := nI 0) (hv := nI 0) (pq := fun U => decide (¬ nI 0 < tF U kz 2)) h8 hk (fun T hT hN _ => by
      have r1 := rg_iff.mp (hT.2.1 kz (by rw [hN]; exact hk)).2.2.1
      unfold rg
      rw [nI_toInt (by omega)]
      apply decide_eq_decide.mpr
      rw [Int32.lt_iff_toInt_lt, nI_toInt (by omega)]
      omega) 201 0 A A σ1 (by omega) (Or.inl ⟨rfl, rfl⟩) a3 hW hX hR1 rfl rfl
    have ft := a2.tr b2
    have hC2 : CR σ2 36 A := hC.ext (fun a h1 h2 _ => ft a (by omega) (by omega))
    have hM2 : MR (σ2 94) A := by rw [ft 94 (by omega) (by omega)]; exact hM
    obtain ⟨σ3, p1, p2, p3⟩ := k_by (E := E) (d := d + 49) hM2 h8
    have hM3 : MR (σ3 94) A := by rw [p2 94 (by decide)]; exact hM2
    obtain ⟨σ4, q1, q2, q3⟩ := k_van_l (E := E) (d := d + 43) h8 hk 201 0 A σ3 (by omega) hM3 hW hX rfl rfl p3
    have fr : Fr [94, 96, 105, 106, 108, 109, 110, 112] σ2 σ4 := (p2.mono (by decide)).tr (q2.mono (by decide))
    refine ⟨oM (vF (fun U => decide (¬ nI 0 < tF U kz 2)) 201 A 0), σ2, σ4, A, B, im, ?_, ?_, hI.same ((QT.f56 ft).tr (QT.fr fr)) (hC2.ext (fun a h1 h2 _ => fr a (by simp; omega))) q3⟩
    · have hfd : Rn E (d + 49) 101 0 [some (.ref 0), some (.int (nI kz)), some (.int (nI 0)), some (.int (nI 0)), none] [] (shp, σ) = some (some (.int (oM (vF (fun U => decide (¬ nI 0 < tF U kz 2)) 201 A 0))), (shp, σ2)) := by
        simp (disch := omega) only [e101_0, e101_1, e101_4, e101_5, e101_8, e101_11, e101_12, ↓reduceIte, inb_n, ix_n, if_true, ne_eq, Nat.reduceEqDiff, not_false_eq_true, clK_s, tl_s, tl_n, clr_i, clr_n, clr_a, nI_add, gX_2, gX_4, vT t56, a1]
        exact b1
      simp (disch := omega) only [e70_0, e70_1, e70_4, e70_5, e70_8, e70_11, e70_12, e70_13, e70_14, e70_15, e70_18, e70_21, e70_23, ↓reduceIte, inb_n, ix_n, if_true, ne_eq, Nat.reduceEqDiff, not_false_eq_true, clK_s, tl_s, tl_n, clr_i, clr_n, clr_a, nI_add, gX_2, gT_0 t36, gT_1 t36, gT_2 t36, gT_3 t36, gT_4 t36, gT_5 t36, gT_6 t36, gT_7 t36, gT_8 t36, gT_9 t36, gT_10 t36, gT_11 t36, gT_12 t36, gT_13 t36, gT_14 t36, gT_15 t36, gT_16 t36, gT_17 t36, pT_10 t36, pT_11 t36, pT_12 t36, pT_13 t36, pT_14 t36, pT_15 t36, pT_16 t36, pT_17 t36, aT_1 t36, aT_2 t36, aT_3 t36, aT_4 t36, aT_5 t36, aT_6 t36, aT_7 t36, aT_8 t36, aT_9 t36, sT_1 t36, sT_2 t36, sT_3 t36, sT_4 t36, sT_5 t36, sT_6 t36, sT_7 t36, sT_8 t36, sT_9 t36, vT t36, c_has t36 hC h8, ho, bI_0, Bool.true_eq_false, Bool.false_eq_true, not_true_eq_false, not_false_eq_true, if_false, reduceCtorEq, vX, hfd]
    · simp (disch := omega) only [e158_0, e158_1, e158_2, e158_5, e158_8, e158_10, e158_11, e158_12, e158_15, e158_16, ↓reduceIte, gM_0, a_94, inb_n, ix_n, if_true, ne_eq, Nat.reduceEqDiff, not_false_eq_true, vM, clK_s, tl_s, tl_n, clr_i, clr_n, clr_a, nI_add, k_isOne hM2 h8, ho, bI_0, Bool.true_eq_false, Bool.false_eq_true, not_true_eq_false, not_false_eq_true, if_false, reduceCtorEq, p1]
      exact q1
theorem op_bumps {xv : Int32} (hI : INV σ A B im) : OK2 σ (Rn E (d + 50) 71 0 [some (.ref 0), some (.int xv)] []) (Rn E (d + 50) 159 0 [some (.ref 93), some (.int xv), none] []) := by
  obtain ⟨⟨hC, hM, hW, hX, hc, hR⟩, _⟩ := id hI
  have h8 := hW.1
  cases ho : hasB A xv with
  | false =>
    refine ok_read (vv := (-1000000001)) hI ?_ ?_
    · simp (disch := omega) only [e71_0, e71_1, e71_4, e71_5, e71_8, e71_11, e71_12, e71_13, e71_14, e71_17, e71_20, e71_21, e71_22, e71_23, e71_24, e71_27, e71_30, e71_33, e71_35, ↓reduceIte, inb_n, ix_n, if_true, ne_eq, Nat.reduceEqDiff, not_false_eq_true, clK_s, tl_s, tl_n, clr_i, clr_n, clr_a, nI_add, gX_2, gT_0 t36, gT_1 t36, gT_2 t36, gT_3 t36, gT_4 t36, gT_5 t36, gT_6 t36, gT_7 t36, gT_8 t36, gT_9 t36, gT_10 t36, gT_11 t36, gT_12 t36, gT_13 t36, gT_14 t36, gT_15 t36, gT_16 t36, gT_17 t36, pT_10 t36, pT_11 t36, pT_12 t36, pT_13 t36, pT_14 t36, pT_15 t36, pT_16 t36, pT_17 t36, aT_1 t36, aT_2 t36, aT_3 t36, aT_4 t36, aT_5 t36, aT_6 t36, aT_7 t36, aT_8 t36, aT_9 t36, sT_1 t36, sT_2 t36, sT_3 t36, sT_4 t36, sT_5 t36, sT_6 t36, sT_7 t36, sT_8 t36, sT_9 t36, vT t36, c_has t36 hC h8, ho, bI_0, Bool.true_eq_false, Bool.false_eq_true, not_true_eq_false, not_false_eq_true, if_false, reduceCtorEq]
    · simp (disch := omega) only [e159_0, e159_1, e159_2, e159_5, e159_8, e159_10, ↓reduceIte, gM_0, a_94, inb_n, ix_n, if_true, ne_eq, Nat.reduceEqDiff, not_false_eq_true, vM, clK_s, tl_s, tl_n, clr_i, clr_n, clr_a, nI_add, k_isOne hM h8, ho, bI_0, Bool.true_eq_false, Bool.false_eq_true, not_true_eq_false, not_false_eq_true, if_false, reduceCtorEq]
  | true =>
    obtain ⟨kz, hk, rfl⟩ := hasB_ex ho
    obtain ⟨cz, hc2, ec⟩ := rg_e (n := 200) rfl hc.2
    have r0 : σ (36 + 8) 0 = nI cz := by rw [hC.r0, ec]
    obtain ⟨σ1, a1, a2, a3⟩ := c_takes (E := E) (d := d + 47) t56 t36 (by decide) hC h8
    have hR1 := hR.ft hX.1 (by omega) a2
    obtain ⟨σ2, b1, b2⟩ := c_first_l (E := E) (d := d + 43) (A := A) (oz := kz) (lv := nI (cz + 1)) (hv := nI 200) (pq := fun U => decide (tC U 6 < tF U kz 2)) h8 hk (fun T hT hN h6 => by
      have r1 := rg_iff.mp (hT.2.1 kz (by rw [hN]; exact hk)).2.2.1
      unfold rg
      rw [nI_toInt (by omega), nI_toInt (by omega)]
      apply decide_eq_decide.mpr
      rw [Int32.lt_iff_toInt_lt, h6, ec, nI_toInt (by omega)]
      omega) 201 0 A A σ1 (by omega) (Or.inl ⟨rfl, rfl⟩) a3 hW hX hR1 rfl rfl
    have ft := a2.tr b2
    have hC2 : CR σ2 36 A := hC.ext (fun a h1 h2 _ => ft a (by omega) (by omega))
    have hM2 : MR (σ2 94) A := by rw [ft 94 (by omega) (by omega)]; exact hM
    obtain ⟨σ3, p1, p2, p3⟩ := k_by (E := E) (d := d + 49) hM2 h8
    have hM3 : MR (σ3 94) A := by rw [p2 94 (by decide)]; exact hM2
    obtain ⟨σ4, q1, q2, q3⟩ := k_bum_l (E := E) (d := d + 43) h8 hk 201 0 A σ3 (by omega) hM3 hW hX rfl rfl p3
    have fr : Fr [94, 96, 105, 106, 108, 109, 110, 112] σ2 σ4 := (p2.mono (by decide)).tr (q2.mono (by decide))
    refine ⟨oM (vF (fun U => decide (tC U 6 < tF U kz 2)) 201 A 0), σ2, σ4, A, B, im, ?_, ?_, hI.same ((QT.f56 ft).tr (QT.fr fr)) (hC2.ext (fun a h1 h2 _ => fr a (by simp; omega))) q3⟩
    · have hfd : Rn E (d + 49) 101 0 [some (.ref 0), some (.int (nI kz)), some (.int (nI (cz + 1))), some (.int (nI 200)), none] [] (shp, σ) = some (some (.int (oM (vF (fun U => decide (tC U 6 < tF U kz 2)) 201 A 0))), (shp, σ2)) := by
        simp (disch := omega) only [e101_0, e101_1, e101_4, e101_5, e101_8, e101_11, e101_12, ↓reduceIte, inb_n, ix_n, if_true, ne_eq, Nat.reduceEqDiff, not_false_eq_true, clK_s, tl_s, tl_n, clr_i, clr_n, clr_a, nI_add, gX_2, gX_4, vT t56, a1]
        exact b1
      simp (disch := omega) only [e71_0, e71_1, e71_4, e71_5, e71_8, e71_11, e71_12, e71_13, e71_14, e71_17, e71_20, e71_21, e71_22, e71_23, e71_24, e71_27, e71_30, e71_33, e71_35, ↓reduceIte, inb_n, ix_n, if_true, ne_eq, Nat.reduceEqDiff, not_false_eq_true, clK_s, tl_s, tl_n, clr_i, clr_n, clr_a, nI_add, gX_2, gT_0 t36, gT_1 t36, gT_2 t36, gT_3 t36, gT_4 t36, gT_5 t36, gT_6 t36, gT_7 t36, gT_8 t36, gT_9 t36, gT_10 t36, gT_11 t36, gT_12 t36, gT_13 t36, gT_14 t36, gT_15 t36, gT_16 t36, gT_17 t36, pT_10 t36, pT_11 t36, pT_12 t36, pT_13 t36, pT_14 t36, pT_15 t36, pT_16 t36, pT_17 t36, aT_1 t36, aT_2 t36, aT_3 t36, aT_4 t36, aT_5 t36, aT_6 t36, aT_7 t36, aT_8 t36, aT_9 t36, sT_1 t36, sT_2 t36, sT_3 t36, sT_4 t36, sT_5 t36, sT_6 t36, sT_7 t36, sT_8 t36, sT_9 t36, vT t36, c_has t36 hC h8, ho, bI_0, Bool.true_eq_false, Bool.false_eq_true, not_true_eq_false, not_false_eq_true, if_false, reduceCtorEq, vX, r0, hfd]
    · simp (disch := omega) only [e159_0, e159_1, e159_2, e159_5, e159_8, e159_10, e159_11, e159_12, e159_15, e159_16, ↓reduceIte, gM_0, a_94, inb_n, ix_n, if_true, ne_eq, Nat.reduceEqDiff, not_false_eq_true, vM, clK_s, tl_s, tl_n, clr_i, clr_n, clr_a, nI_add, k_isOne hM2 h8, ho, bI_0, Bool.true_eq_false, Bool.false_eq_true, not_true_eq_false, not_false_eq_true, if_false, reduceCtorEq, p1]
      exact q1
end Will
