/-! FEES, FINES, WHAT IS TOLD OF TEXTS -/
section Fee
variable {E : aE} {d : Nat} {σ : Nat → Nat → Int32} {A B : Tn} {im : Bool}
theorem op_fee (hI : INV σ A B im) : OK2 σ (Rn E (d + 50) 76 0 [some (.ref 0), none] []) (Rn E (d + 50) 166 0 [some (.ref 93), none] []) := by
  obtain ⟨⟨hC, hM, hW, hX, hc, hR⟩, _⟩ := id hI
  have h8 := hW.1
  have h14 := hX.1
  have q1 := hC.co (key := 1) (by omega)
  have q2 := hC.gl
  have q3 := hC.va
  have m3 := hM.2.2.1 3 (by omega) (by omega)
  have m4 := hM.2.2.1 4 (by omega) (by omega)
  cases hl : lastK (tX A) 1 with
  | none =>
    have z1 : ¬ nI 0 ≤ oI none := by decide +kernel
    rw [hl] at q1
    refine ok_read (vv := tC A 3) hI ?_ ?_
    · simp (disch := omega) only [e76_0, e76_1, e76_4, e76_7, e76_8, e76_9, e76_10, e76_11, e76_14, e76_15, e76_18, e76_21, e76_24, e76_25, e76_28, e76_29, e76_30, e76_33, e76_36, e76_37, e76_40, e76_43, e76_44, e76_47, ↓reduceIte, inb_n, ix_n, if_true, ne_eq, Nat.reduceEqDiff, not_false_eq_true, clK_s, tl_s, tl_n, clr_i, clr_n, clr_a, nI_add, gX_2, gT_0 t36, gT_1 t36, gT_2 t36, gT_3 t36, gT_4 t36, gT_5 t36, gT_6 t36, gT_7 t36, gT_8 t36, gT_9 t36, gT_10 t36, gT_11 t36, gT_12 t36, gT_13 t36, gT_14 t36, gT_15 t36, gT_16 t36, gT_17 t36, pT_10 t36, pT_11 t36, pT_12 t36, pT_13 t36, pT_14 t36, pT_15 t36, pT_16 t36, pT_17 t36, aT_1 t36, aT_2 t36, aT_3 t36, aT_4 t36, aT_5 t36, aT_6 t36, aT_7 t36, aT_8 t36, aT_9 t36, sT_1 t36, sT_2 t36, sT_3 t36, sT_4 t36, sT_5 t36, sT_6 t36, sT_7 t36, sT_8 t36, sT_9 t36, vT t36, q1, z1, q2]
    · simp (disch := omega) only [e166_0, e166_1, e166_2, e166_5, e166_6, e166_7, e166_10, e166_11, e166_14, e166_15, e166_16, e166_17, e166_18, e166_21, e166_23, e166_24, e166_27, e166_28, e166_29, e166_30, e166_31, e166_34, e166_36, e166_37, e166_40, e166_41, e166_42, e166_43, e166_44, e166_45, e166_48, ↓reduceIte, gM_0, a_94, inb_n, ix_n, if_true, ne_eq, Nat.reduceEqDiff, not_false_eq_true, vM, clK_s, tl_s, tl_n, clr_i, clr_n, clr_a, nI_add, k_counts (show 1 < 3 by omega) hM hX, hl, z1, m3]
  | some jz =>
    obtain ⟨hj, tx, hg, hk0⟩ := lastK_ok hl
    have hok := hX.2 tx (List.mem_of_getElem? hg)
    rw [hl] at q1
    have z1 : nI 0 ≤ nI jz := nI_le (by omega) (by omega)
    obtain ⟨σ1, a1, a2⟩ := c_value (E := E) (d := d + 48) (σ := σ) (tz := jz) (tx := tx) (av := tC A 3) (bv := tC A 4) (cv := nI 0) (hR jz tx hg) hok (by omega)
    have hM1 : MR (σ1 94) A := by rw [a2 94 (by decide)]; exact hM
    have n3 := hM1.2.2.1 3 (by omega) (by omega)
    have n4 : su σ1 108 103 (tC A 3) 94 4 = tC A 4 := by rw [su_row (by decide)]; exact hM1.2.2.1 4 (by omega) (by omega)
    have hr : (su (su σ1 108 103 (tC A 3)) 108 118 (tC A 4)) 94 = σ1 94 := by rw [su_row (by decide), su_row (by decide)]
    obtain ⟨σ2, b1, b2⟩ := k_worked (E := E) (d := d + 48) (σ := su (su σ1 108 103 (tC A 3)) 108 118 (tC A 4)) (tz := jz) (tx := tx) (by rw [hr]; exact hM1.2.2.2.2.2 jz tx hg) hok (by omega)
    have fr : Fr [94, 96, 105, 106, 108, 109, 110, 112] σ1 σ2 := ((Fr.rf.su (by decide)).su (by decide)).tr (b2.mono (by decide))
    have e94 : σ2 94 = σ1 94 := by rw [b2 94 (by decide), hr]
    have hv : evT (fun lv => su (su σ1 108 103 (tC A 3)) 108 118 (tC A 4) 108 (ix lv)) tx.2.2 = evT (nv tx.1 (tC A 3) (tC A 4) (nI 0)) tx.2.2 := by
      refine evT_nm hok (fun lz hn => ?_)
      rw [hk0] at hn ⊢
      simp only [nmK, Nat.reduceEqDiff, if_false, if_true, Bool.or_eq_true, beq_iff_eq] at hn
      rcases hn with rfl | rfl <;> rw [ix_n (by decide)] <;> simp (disch := omega) [nv, su_at, nI_lt2]
    rw [hv] at b1
    refine ⟨evT (nv tx.1 (tC A 3) (tC A 4) (nI 0)) tx.2.2, σ1, σ2, A, B, im, ?_, ?_, hI.same ((QT.f3 a2).tr (QT.fr fr)) ((hC.of3 t36 a2).ext (fun a h1 h2 _ => fr a (by simp; omega))) (by rw [e94]; exact hM1)⟩
    · simp (disch := omega) only [e76_0, e76_1, e76_4, e76_7, e76_8, e76_9, e76_10, e76_11, e76_14, e76_15, e76_18, e76_21, e76_24, e76_25, e76_28, e76_29, e76_30, e76_33, e76_36, e76_37, e76_40, e76_43, e76_44, e76_47, ↓reduceIte, inb_n, ix_n, if_true, ne_eq, Nat.reduceEqDiff, not_false_eq_true, clK_s, tl_s, tl_n, clr_i, clr_n, clr_a, nI_add, gX_2, gX_0, gT_0 t36, gT_1 t36, gT_2 t36, gT_3 t36, gT_4 t36, gT_5 t36, gT_6 t36, gT_7 t36, gT_8 t36, gT_9 t36, gT_10 t36, gT_11 t36, gT_12 t36, gT_13 t36, gT_14 t36, gT_15 t36, gT_16 t36, gT_17 t36, pT_10 t36, pT_11 t36, pT_12 t36, pT_13 t36, pT_14 t36, pT_15 t36, pT_16 t36, pT_17 t36, aT_1 t36, aT_2 t36, aT_3 t36, aT_4 t36, aT_5 t36, aT_6 t36, aT_7 t36, aT_8 t36, aT_9 t36, sT_1 t36, sT_2 t36, sT_3 t36, sT_4 t36, sT_5 t36, sT_6 t36, sT_7 t36, sT_8 t36, sT_9 t36, vT t36, q1, z1, q2, q3, vL, oI_s, a1]
    · simp (disch := omega) only [e166_0, e166_1, e166_2, e166_5, e166_6, e166_7, e166_10, e166_11, e166_14, e166_15, e166_16, e166_17, e166_18, e166_21, e166_23, e166_24, e166_27, e166_28, e166_29, e166_30, e166_31, e166_34, e166_36, e166_37, e166_40, e166_41, e166_42, e166_43, e166_44, e166_45, e166_48, ↓reduceIte, gM_0, a_94, inb_n, ix_n, if_true, ne_eq, Nat.reduceEqDiff, not_false_eq_true, vM, clK_s, tl_s, tl_n, clr_i, clr_n, clr_a, nI_add, k_counts (show 1 < 3 by omega) hM1 hX, hl, z1, n3, n4, gM_26, s_108, oI_s, b1]
theorem op_fine {xv : Int32} (hI : INV σ A B im) : OK2 σ (Rn E (d + 50) 77 0 [some (.ref 0), some (.int xv), none] []) (Rn E (d + 50) 167 0 [some (.ref 93), some (.int xv), none] []) := by
  obtain ⟨⟨hC, hM, hW, hX, hc, hR⟩, _⟩ := id hI
  have h8 := hW.1
  have h14 := hX.1
  cases ho : hasB A xv with
  | false =>
    refine ok_read (vv := (-1000000001)) hI ?_ ?_
    · simp (disch := omega) only [e77_0, e77_1, e77_4, e77_5, e77_8, e77_11, e77_13, e77_14, e77_15, e77_18, e77_21, e77_22, e77_23, e77_24, e77_25, e77_28, e77_29, e77_32, e77_35, e77_36, e77_37, e77_40, e77_41, e77_44, e77_45, e77_46, e77_49, e77_52, e77_53, e77_54, e77_55, e77_58, e77_61, e77_62, e77_63, e77_64, e77_67, ↓reduceIte, inb_n, ix_n, if_true, ne_eq, Nat.reduceEqDiff, not_false_eq_true, clK_s, tl_s, tl_n, clr_i, clr_n, clr_a, nI_add, gX_2, gT_0 t36, gT_1 t36, gT_2 t36, gT_3 t36, gT_4 t36, gT_5 t36, gT_6 t36, gT_7 t36, gT_8 t36, gT_9 t36, gT_10 t36, gT_11 t36, gT_12 t36, gT_13 t36, gT_14 t36, gT_15 t36, gT_16 t36, gT_17 t36, pT_10 t36, pT_11 t36, pT_12 t36, pT_13 t36, pT_14 t36, pT_15 t36, pT_16 t36, pT_17 t36, aT_1 t36, aT_2 t36, aT_3 t36, aT_4 t36, aT_5 t36, aT_6 t36, aT_7 t36, aT_8 t36, aT_9 t36, sT_1 t36, sT_2 t36, sT_3 t36, sT_4 t36, sT_5 t36, sT_6 t36, sT_7 t36, sT_8 t36, sT_9 t36, vT t36, c_has t36 hC h8, ho, bI_0, Bool.true_eq_false, Bool.false_eq_true, not_true_eq_false, not_false_eq_true, if_false, reduceCtorEq]
    · simp (disch := omega) only [e167_0, e167_1, e167_2, e167_5, e167_8, e167_10, e167_11, e167_12, e167_13, e167_16, e167_17, e167_18, e167_21, e167_22, e167_23, e167_24, e167_27, e167_28, e167_29, e167_32, e167_34, e167_35, e167_36, e167_37, e167_40, e167_41, e167_42, e167_45, e167_47, e167_48, e167_49, e167_50, e167_53, e167_54, e167_55, e167_56, e167_59, ↓reduceIte, gM_0, a_94, inb_n, ix_n, if_true, ne_eq, Nat.reduceEqDiff, not_false_eq_true, vM, clK_s, tl_s, tl_n, clr_i, clr_n, clr_a, nI_add, k_isOne hM h8, ho, bI_0, Bool.true_eq_false, Bool.false_eq_true, not_true_eq_false, not_false_eq_true, if_false, reduceCtorEq]
  | true =>
    obtain ⟨kz, hk, rfl⟩ := hasB_ex ho
    have q1 := hC.co (key := 2) (by omega)
    have p1 := hC.k1 hk
    have p2 := hC.k2 hk
    have p3 := hC.k3 hk
    have m3 := hM.2.1 kz hk 3 (by omega)
    cases hl : lastK (tX A) 2 with
    | none =>
      have z1 : ¬ nI 0 ≤ oI none := by decide +kernel
      rw [hl] at q1
      refine ok_read (vv := tF A kz 3) hI ?_ ?_
      · simp (disch := omega) only [e77_0, e77_1, e77_4, e77_5, e77_8, e77_11, e77_13, e77_14, e77_15, e77_18, e77_21, e77_22, e77_23, e77_24, e77_25, e77_28, e77_29, e77_32, e77_35, e77_36, e77_37, e77_40, e77_41, e77_44, e77_45, e77_46, e77_49, e77_52, e77_53, e77_54, e77_55, e77_58, e77_61, e77_62, e77_63, e77_64, e77_67, ↓reduceIte, inb_n, ix_n, if_true, ne_eq, Nat.reduceEqDiff, not_false_eq_true, clK_s, tl_s, tl_n, clr_i, clr_n, clr_a, nI_add, gX_2, gT_0 t36, gT_1 t36, gT_2 t36, gT_3 t36, gT_4 t36, gT_5 t36, gT_6 t36, gT_7 t36, gT_8 t36, gT_9 t36, gT_10 t36, gT_11 t36, gT_12 t36, gT_13 t36, gT_14 t36, gT_15 t36, gT_16 t36, gT_17 t36, pT_10 t36, pT_11 t36, pT_12 t36, pT_13 t36, pT_14 t36, pT_15 t36, pT_16 t36, pT_17 t36, aT_1 t36, aT_2 t36, aT_3 t36, aT_4 t36, aT_5 t36, aT_6 t36, aT_7 t36, aT_8 t36, aT_9 t36, sT_1 t36, sT_2 t36, sT_3 t36, sT_4 t36, sT_5 t36, sT_6 t36, sT_7 t36, sT_8 t36, sT_9 t36, vT t36, c_has t36 hC h8, ho, bI_0, Bool.true_eq_false, Bool.false_eq_true, not_true_eq_false, not_false_eq_true, if_false, reduceCtorEq, q1, z1, p3]
      · simp (disch := omega) only [e167_0, e167_1, e167_2, e167_5, e167_8, e167_10, e167_11, e167_12, e167_13, e167_16, e167_17, e167_18, e167_21, e167_22, e167_23, e167_24, e167_27, e167_28, e167_29, e167_32, e167_34, e167_35, e167_36, e167_37, e167_40, e167_41, e167_42, e167_45, e167_47, e167_48, e167_49, e167_50, e167_53, e167_54, e167_55, e167_56, e167_59, ↓reduceIte, gM_0, a_94, inb_n, ix_n, if_true, ne_eq, Nat.reduceEqDiff, not_false_eq_true, vM, clK_s, tl_s, tl_n, clr_i, clr_n, clr_a, nI_add, k_isOne hM h8, ho, bI_0, Bool.true_eq_false, Bool.false_eq_true, not_true_eq_false, not_false_eq_true, if_false, reduceCtorEq, k_counts (show 2 < 3 by omega) hM hX, hl, z1, k_of, m3]
    | some jz =>
      obtain ⟨hj, tx, hg, hk0⟩ := lastK_ok hl
      have hok := hX.2 tx (List.mem_of_getElem? hg)
      rw [hl] at q1
      have z1 : nI 0 ≤ nI jz := nI_le (by omega) (by omega)
      obtain ⟨σ1, a1, a2⟩ := c_value (E := E) (d := d + 48) (σ := σ) (tz := jz) (tx := tx) (av := tF A kz 2) (bv := tF A kz 1) (cv := nI 0) (hR jz tx hg) hok (by omega)
      have hM1 : MR (σ1 94) A := by rw [a2 94 (by decide)]; exact hM
      have n3 := hM1.2.1 kz hk 2 (by omega)
      have n4 : su σ1 108 115 (tF A kz 2) 94 (10 + 5 * kz + 1) = tF A kz 1 := by rw [su_row (by decide)]; exact hM1.2.1 kz hk 1 (by omega)
      have hr : (su (su σ1 108 115 (tF A kz 2)) 108 112 (tF A kz 1)) 94 = σ1 94 := by rw [su_row (by decide), su_row (by decide)]
      obtain ⟨σ2, b1, b2⟩ := k_worked (E := E) (d := d + 48) (σ := su (su σ1 108 115 (tF A kz 2)) 108 112 (tF A kz 1)) (tz := jz) (tx := tx) (by rw [hr]; exact hM1.2.2.2.2.2 jz tx hg) hok (by omega)
      have fr : Fr [94, 96, 105, 106, 108, 109, 110, 112] σ1 σ2 := ((Fr.rf.su (by decide)).su (by decide)).tr (b2.mono (by decide))
      have e94 : σ2 94 = σ1 94 := by rw [b2 94 (by decide), hr]
      have hv : evT (fun lv => su (su σ1 108 115 (tF A kz 2)) 108 112 (tF A kz 1) 108 (ix lv)) tx.2.2 = evT (nv tx.1 (tF A kz 2) (tF A kz 1) (nI 0)) tx.2.2 := by
        refine evT_nm hok (fun lz hn => ?_)
        rw [hk0] at hn ⊢
        simp only [nmK, Nat.reduceEqDiff, if_false, if_true, Bool.or_eq_true, beq_iff_eq] at hn
        rcases hn with rfl | rfl <;> rw [ix_n (by decide)] <;> simp (disch := omega) [nv, su_at, nI_lt2]
      rw [hv] at b1
      refine ⟨evT (nv tx.1 (tF A kz 2) (tF A kz 1) (nI 0)) tx.2.2, σ1, σ2, A, B, im, ?_, ?_, hI.same ((QT.f3 a2).tr (QT.fr fr)) ((hC.of3 t36 a2).ext (fun a h1 h2 _ => fr a (by simp; omega))) (by rw [e94]; exact hM1)⟩
      · simp (disch := omega) only [e77_0, e77_1, e77_4, e77_5, e77_8, e77_11, e77_13, e77_14, e77_15, e77_18, e77_21, e77_22, e77_23, e77_24, e77_25, e77_28, e77_29, e77_32, e77_35, e77_36, e77_37, e77_40, e77_41, e77_44, e77_45, e77_46, e77_49, e77_52, e77_53, e77_54, e77_55, e77_58, e77_61, e77_62, e77_63, e77_64, e77_67, ↓reduceIte, inb_n, ix_n, if_true, ne_eq, Nat.reduceEqDiff, not_false_eq_true, clK_s, tl_s, tl_n, clr_i, clr_n, clr_a, nI_add, gX_2, gX_0, gT_0 t36, gT_1 t36, gT_2 t36, gT_3 t36, gT_4 t36, gT_5 t36, gT_6 t36, gT_7 t36, gT_8 t36, gT_9 t36, gT_10 t36, gT_11 t36, gT_12 t36, gT_13 t36, gT_14 t36, gT_15 t36, gT_16 t36, gT_17 t36, pT_10 t36, pT_11 t36, pT_12 t36, pT_13 t36, pT_14 t36, pT_15 t36, pT_16 t36, pT_17 t36, aT_1 t36, aT_2 t36, aT_3 t36, aT_4 t36, aT_5 t36, aT_6 t36, aT_7 t36, aT_8 t36, aT_9 t36, sT_1 t36, sT_2 t36, sT_3 t36, sT_4 t36, sT_5 t36, sT_6 t36, sT_7 t36, sT_8 t36, sT_9 t36, vT t36, c_has t36 hC h8, ho, bI_0, Bool.true_eq_false, Bool.false_eq_true, not_true_eq_false, not_false_eq_true, if_false, reduceCtorEq, q1, z1, p2, p1, vL, oI_s, a1]
      · simp (disch := omega) only [e167_0, e167_1, e167_2, e167_5, e167_8, e167_10, e167_11, e167_12, e167_13, e167_16, e167_17, e167_18, e167_21, e167_22, e167_23, e167_24, e167_27, e167_28, e167_29, e167_32, e167_34, e167_35, e167_36, e167_37, e167_40, e167_41, e167_42, e167_45, e167_47, e167_48, e167_49, e167_50, e167_53, e167_54, e167_55, e167_56, e167_59, ↓reduceIte, gM_0, a_94, inb_n, ix_n, if_true, ne_eq, Nat.reduceEqDiff, not_false_eq_true, vM, clK_s, tl_s, tl_n, clr_i, clr_n, clr_a, nI_add, k_isOne hM1 h8, ho, bI_0, Bool.true_eq_false, Bool.false_eq_true, not_true_eq_false, not_false_eq_true, if_false, reduceCtorEq, k_counts (show 2 < 3 by omega) hM1 hX, hl, z1, k_of, n3, n4, gM_26, s_108, oI_s, b1]
theorem op_why {xv : Int32} (hI : INV σ A B im) : OK2 σ (Rn E (d + 50) 82 0 [some (.ref 0), some (.int xv)] []) (Rn E (d + 50) 188 0 [some (.ref 93), some (.int xv)] []) := by
  obtain ⟨⟨hC, hM, hW, hX, hc, hR⟩, _⟩ := id hI
  cases hb : rg 0 2 xv with
  | false =>
    refine ok_read (vv := (-1000000001)) hI ?_ ?_
    · simp (disch := omega) only [e82_0, e82_1, e82_2, e82_3, e82_6, e82_9, e82_11, e82_12, e82_13, e82_16, e82_19, e82_20, e82_21, e82_24, e82_25, e82_28, e82_31, e82_32, e82_33, e82_36, e82_38, ↓reduceIte, inb_n, ix_n, if_true, ne_eq, Nat.reduceEqDiff, not_false_eq_true, clK_s, tl_s, tl_n, clr_i, clr_n, clr_a, nI_add, c_isWithin, tI_0, tI_1, tI_2, tI_3, tI_4, tI_5, tI_6, tI_7, tI_8, tI_19, tI_20, tI_23, tI_24, tI_29, tI_30, tI_48, tI_50, tI_57, tI_60, tI_97, tI_100, tI_122, tI_200, tI_99999, tI_m1, tI_m99999, hb, bI_0, Bool.true_eq_false, Bool.false_eq_true, not_true_eq_false, not_false_eq_true, if_false, reduceCtorEq]
    · simp (disch := omega) only [e188_0, e188_1, e188_2, e188_3, e188_6, e188_9, e188_12, e188_13, e188_14, e188_17, e188_20, e188_23, e188_25, ↓reduceIte, gM_0, a_94, inb_n, ix_n, if_true, ne_eq, Nat.reduceEqDiff, not_false_eq_true, vM, clK_s, tl_s, tl_n, clr_i, clr_n, clr_a, nI_add, k_in, rgL_c, tL_0, tL_1, tL_2, tL_3, tL_4, tL_5, tL_6, tL_7, tL_8, tL_19, tL_30, tL_48, tL_50, tL_57, tL_60, tL_97, tL_100, tL_122, tL_200, tL_99999, tL_m1, tL_m99999, hb, bI_0, Bool.true_eq_false, Bool.false_eq_true, not_true_eq_false, not_false_eq_true, if_false, reduceCtorEq]
  | true =>
    obtain ⟨kz, hk, rfl⟩ := rg_e (n := 2) rfl hb
    have q1 := hC.co (key := kz) (by omega)
    refine ok_read (vv := oN (oI (lastK (tX A) kz))) hI ?_ ?_
    · simp (disch := omega) only [e82_0, e82_1, e82_2, e82_3, e82_6, e82_9, e82_11, e82_12, e82_13, e82_16, e82_19, e82_20, e82_21, e82_24, e82_25, e82_28, e82_31, e82_32, e82_33, e82_36, e82_38, ↓reduceIte, inb_n, ix_n, if_true, ne_eq, Nat.reduceEqDiff, not_false_eq_true, clK_s, tl_s, tl_n, clr_i, clr_n, clr_a, nI_add, c_isWithin, tI_0, tI_1, tI_2, tI_3, tI_4, tI_5, tI_6, tI_7, tI_8, tI_19, tI_20, tI_23, tI_24, tI_29, tI_30, tI_48, tI_50, tI_57, tI_60, tI_97, tI_100, tI_122, tI_200, tI_99999, tI_m1, tI_m99999, hb, bI_0, Bool.true_eq_false, Bool.false_eq_true, not_true_eq_false, not_false_eq_true, if_false, reduceCtorEq, gX_2, gT_0 t36, gT_1 t36, gT_2 t36, gT_3 t36, gT_4 t36, gT_5 t36, gT_6 t36, gT_7 t36, gT_8 t36, gT_9 t36, gT_10 t36, gT_11 t36, gT_12 t36, gT_13 t36, gT_14 t36, gT_15 t36, gT_16 t36, gT_17 t36, pT_10 t36, pT_11 t36, pT_12 t36, pT_13 t36, pT_14 t36, pT_15 t36, pT_16 t36, pT_17 t36, aT_1 t36, aT_2 t36, aT_3 t36, aT_4 t36, aT_5 t36, aT_6 t36, aT_7 t36, aT_8 t36, aT_9 t36, sT_1 t36, sT_2 t36, sT_3 t36, sT_4 t36, sT_5 t36, sT_6 t36, sT_7 t36, sT_8 t36, sT_9 t36, vT t36, q1, oI_neg (lastK_31 hX)]
      rw [oI_lt (lastK_31 hX)]
      cases lastK (tX A) kz with
      | none => simp [oM]
      | some jz => simp [oI, oM]
    · simp (disch := omega) only [e188_0, e188_1, e188_2, e188_3, e188_6, e188_9, e188_12, e188_13, e188_14, e188_17, e188_20, e188_23, e188_25, ↓reduceIte, gM_0, a_94, inb_n, ix_n, if_true, ne_eq, Nat.reduceEqDiff, not_false_eq_true, vM, clK_s, tl_s, tl_n, clr_i, clr_n, clr_a, nI_add, k_in, rgL_c, tL_0, tL_1, tL_2, tL_3, tL_4, tL_5, tL_6, tL_7, tL_8, tL_19, tL_30, tL_48, tL_50, tL_57, tL_60, tL_97, tL_100, tL_122, tL_200, tL_99999, tL_m1, tL_m99999, hb, bI_0, Bool.true_eq_false, Bool.false_eq_true, not_true_eq_false, not_false_eq_true, if_false, reduceCtorEq, k_counts (show kz < 3 by omega) hM hX, k_orNone]
theorem op_textTold {xv yv : Int32} (hI : INV σ A B im) : OK2 σ (Rn E (d + 50) 81 0 [some (.ref 0), some (.int xv), some (.int yv)] []) (Rn E (d + 50) 186 0 [some (.ref 93), some (.int xv), some (.int yv)] []) := by
  obtain ⟨⟨hC, hM, hW, hX, hc, hR⟩, _⟩ := id hI
  have h14 := hX.1
  have q17 := hC.tx
  have e1 : rg 0 (nI (tX A).length - nI 1).toInt xv = rg 0 ((tX A).length - 1) xv := by
    congr 1
    by_cases h0 : (tX A).length = 0
    · rw [h0]; decide +kernel
    · rw [pk_sub (by omega), nI_toInt (by omega)]; omega
  cases hb : rg 0 ((tX A).length - 1) xv with
  | false =>
    refine ok_read (vv := (-1000000001)) hI ?_ ?_
    · simp (disch := omega) only [e81_0, e81_1, e81_2, e81_3, e81_6, e81_9, e81_10, e81_11, e81_14, e81_17, e81_18, e81_19, e81_20, e81_23, e81_26, e81_28, e81_29, e81_30, e81_33, e81_34, e81_37, e81_40, e81_41, e81_42, e81_45, e81_48, e81_49, e81_52, e81_55, e81_56, e81_57, e81_60, ↓reduceIte, inb_n, ix_n, if_true, ne_eq, Nat.reduceEqDiff, not_false_eq_true, clK_s, tl_s, tl_n, clr_i, clr_n, clr_a, nI_add, c_isWithin, tI_0, tI_1, tI_2, tI_3, tI_4, tI_5, tI_6, tI_7, tI_8, tI_19, tI_20, tI_23, tI_24, tI_29, tI_30, tI_48, tI_50, tI_57, tI_60, tI_97, tI_100, tI_122, tI_200, tI_99999, tI_m1, tI_m99999, gX_2, gT_0 t36, gT_1 t36, gT_2 t36, gT_3 t36, gT_4 t36, gT_5 t36, gT_6 t36, gT_7 t36, gT_8 t36, gT_9 t36, gT_10 t36, gT_11 t36, gT_12 t36, gT_13 t36, gT_14 t36, gT_15 t36, gT_16 t36, gT_17 t36, pT_10 t36, pT_11 t36, pT_12 t36, pT_13 t36, pT_14 t36, pT_15 t36, pT_16 t36, pT_17 t36, aT_1 t36, aT_2 t36, aT_3 t36, aT_4 t36, aT_5 t36, aT_6 t36, aT_7 t36, aT_8 t36, aT_9 t36, sT_1 t36, sT_2 t36, sT_3 t36, sT_4 t36, sT_5 t36, sT_6 t36, sT_7 t36, sT_8 t36, sT_9 t36, vT t36, q17, e1, hb, bI_0, Bool.true_eq_false, Bool.false_eq_true, not_true_eq_false, not_false_eq_true, if_false, reduceCtorEq]
    · simp (disch := omega) only [e186_0, e186_1, e186_2, e186_5, e186_8, e186_9, e186_10, e186_11, e186_12, e186_15, e186_18, e186_20, e186_21, e186_22, e186_25, e186_26, e186_27, e186_30, e186_31, e186_32, e186_33, ↓reduceIte, gM_0, a_94, inb_n, ix_n, if_true, ne_eq, Nat.reduceEqDiff, not_false_eq_true, vM, clK_s, tl_s, tl_n, clr_i, clr_n, clr_a, nI_add, k_isText hM hX, hb, bI_0, Bool.true_eq_false, Bool.false_eq_true, not_true_eq_false, not_false_eq_true, if_false, reduceCtorEq]
  | true =>
    have hr := rg_iff.mp hb
    obtain ⟨tz, ht, rfl⟩ : ∃ tz : Nat, tz < (tX A).length ∧ xv = nI tz := by
      refine ⟨xv.toInt.toNat, by omega, ?_⟩
      apply Int32.toInt_inj.mp
      have := Int32.toInt_lt xv
      rw [nI_toInt (by omega)]
      omega
    obtain ⟨tx, hg⟩ : ∃ tx, (tX A)[tz]? = some tx := ⟨(tX A)[tz], List.getElem?_eq_getElem ht⟩
    obtain ⟨r1, r2, r3, _⟩ := hR tz tx hg
    obtain ⟨m1, m2, _⟩ := hM.2.2.2.2.2 tz tx hg
    cases hw : rg 0 1 yv with
    | false =>
      refine ok_read (vv := (-1000000001)) hI ?_ ?_
      · simp (disch := omega) only [e81_0, e81_1, e81_2, e81_3, e81_6, e81_9, e81_10, e81_11, e81_14, e81_17, e81_18, e81_19, e81_20, e81_23, e81_26, e81_28, e81_29, e81_30, e81_33, e81_34, e81_37, e81_40, e81_41, e81_42, e81_45, e81_48, e81_49, e81_52, e81_55, e81_56, e81_57, e81_60, ↓reduceIte, inb_n, ix_n, if_true, ne_eq, Nat.reduceEqDiff, not_false_eq_true, clK_s, tl_s, tl_n, clr_i, clr_n, clr_a, nI_add, c_isWithin, tI_0, tI_1, tI_2, tI_3, tI_4, tI_5, tI_6, tI_7, tI_8, tI_19, tI_20, tI_23, tI_24, tI_29, tI_30, tI_48, tI_50, tI_57, tI_60, tI_97, tI_100, tI_122, tI_200, tI_99999, tI_m1, tI_m99999, gX_2, gT_0 t36, gT_1 t36, gT_2 t36, gT_3 t36, gT_4 t36, gT_5 t36, gT_6 t36, gT_7 t36, gT_8 t36, gT_9 t36, gT_10 t36, gT_11 t36, gT_12 t36, gT_13 t36, gT_14 t36, gT_15 t36, gT_16 t36, gT_17 t36, pT_10 t36, pT_11 t36, pT_12 t36, pT_13 t36, pT_14 t36, pT_15 t36, pT_16 t36, pT_17 t36, aT_1 t36, aT_2 t36, aT_3 t36, aT_4 t36, aT_5 t36, aT_6 t36, aT_7 t36, aT_8 t36, aT_9 t36, sT_1 t36, sT_2 t36, sT_3 t36, sT_4 t36, sT_5 t36, sT_6 t36, sT_7 t36, sT_8 t36, sT_9 t36, vT t36, q17, e1, hb, hw, bI_0, Bool.true_eq_false, Bool.false_eq_true, not_true_eq_false, not_false_eq_true, if_false, reduceCtorEq]
      · simp (disch := omega) only [e186_0, e186_1, e186_2, e186_5, e186_8, e186_9, e186_10, e186_11, e186_12, e186_15, e186_18, e186_20, e186_21, e186_22, e186_25, e186_26, e186_27, e186_30, e186_31, e186_32, e186_33, ↓reduceIte, gM_0, a_94, inb_n, ix_n, if_true, ne_eq, Nat.reduceEqDiff, not_false_eq_true, vM, clK_s, tl_s, tl_n, clr_i, clr_n, clr_a, nI_add, k_isText hM hX, k_in, rgL_c, tL_0, tL_1, tL_2, tL_3, tL_4, tL_5, tL_6, tL_7, tL_8, tL_19, tL_30, tL_48, tL_50, tL_57, tL_60, tL_97, tL_100, tL_122, tL_200, tL_99999, tL_m1, tL_m99999, hb, hw, bI_0, Bool.true_eq_false, Bool.false_eq_true, not_true_eq_false, not_false_eq_true, if_false, reduceCtorEq]
    | true =>
      obtain ⟨wz, hwz, rfl⟩ := rg_e (n := 1) rfl hw
      match wz, hwz with
      | 0, _ =>
        refine ok_read (vv := nI tx.1) hI ?_ ?_
        · simp (disch := omega) only [e81_0, e81_1, e81_2, e81_3, e81_6, e81_9, e81_10, e81_11, e81_14, e81_17, e81_18, e81_19, e81_20, e81_23, e81_26, e81_28, e81_29, e81_30, e81_33, e81_34, e81_37, e81_40, e81_41, e81_42, e81_45, e81_48, e81_49, e81_52, e81_55, e81_56, e81_57, e81_60, ↓reduceIte, inb_n, ix_n, if_true, ne_eq, Nat.reduceEqDiff, not_false_eq_true, clK_s, tl_s, tl_n, clr_i, clr_n, clr_a, nI_add, c_isWithin, tI_0, tI_1, tI_2, tI_3, tI_4, tI_5, tI_6, tI_7, tI_8, tI_19, tI_20, tI_23, tI_24, tI_29, tI_30, tI_48, tI_50, tI_57, tI_60, tI_97, tI_100, tI_122, tI_200, tI_99999, tI_m1, tI_m99999, gX_2, gX_0, gL_0, q_2, gW_2 (isW_n (show tz < 15 by omega)), gW_3 (isW_n (show tz < 15 by omega)), gT_0 t36, gT_1 t36, gT_2 t36, gT_3 t36, gT_4 t36, gT_5 t36, gT_6 t36, gT_7 t36, gT_8 t36, gT_9 t36, gT_10 t36, gT_11 t36, gT_12 t36, gT_13 t36, gT_14 t36, gT_15 t36, gT_16 t36, gT_17 t36, pT_10 t36, pT_11 t36, pT_12 t36, pT_13 t36, pT_14 t36, pT_15 t36, pT_16 t36, pT_17 t36, aT_1 t36, aT_2 t36, aT_3 t36, aT_4 t36, aT_5 t36, aT_6 t36, aT_7 t36, aT_8 t36, aT_9 t36, sT_1 t36, sT_2 t36, sT_3 t36, sT_4 t36, sT_5 t36, sT_6 t36, sT_7 t36, sT_8 t36, sT_9 t36, vT t36, q17, e1, hb, hw, bI_0, Bool.true_eq_false, Bool.false_eq_true, not_true_eq_false, not_false_eq_true, if_false, reduceCtorEq, r2]
        · simp (disch := omega) only [e186_0, e186_1, e186_2, e186_5, e186_8, e186_9, e186_10, e186_11, e186_12, e186_15, e186_18, e186_20, e186_21, e186_22, e186_25, e186_26, e186_27, e186_30, e186_31, e186_32, e186_33, ↓reduceIte, gM_0, a_94, inb_n, ix_n, if_true, ne_eq, Nat.reduceEqDiff, not_false_eq_true, vM, clK_s, tl_s, tl_n, clr_i, clr_n, clr_a, nI_add, k_isText hM hX, k_in, rgL_c, tL_0, tL_1, tL_2, tL_3, tL_4, tL_5, tL_6, tL_7, tL_8, tL_19, tL_30, tL_48, tL_50, tL_57, tL_60, tL_97, tL_100, tL_122, tL_200, tL_99999, tL_m1, tL_m99999, hb, hw, bI_0, Bool.true_eq_false, Bool.false_eq_true, not_true_eq_false, not_false_eq_true, if_false, reduceCtorEq, k_textAt, Nat.add_zero, m1]
      | 1, _ =>
        have m2' : σ 94 (51 + 200 * tz + 1) = nI tx.2.1 := by rw [show 51 + 200 * tz + 1 = 52 + 200 * tz by omega]; exact m2
        refine ok_read (vv := nI tx.2.1) hI ?_ ?_
        · simp (disch := omega) only [e81_0, e81_1, e81_2, e81_3, e81_6, e81_9, e81_10, e81_11, e81_14, e81_17, e81_18, e81_19, e81_20, e81_23, e81_26, e81_28, e81_29, e81_30, e81_33, e81_34, e81_37, e81_40, e81_41, e81_42, e81_45, e81_48, e81_49, e81_52, e81_55, e81_56, e81_57, e81_60, ↓reduceIte, inb_n, ix_n, if_true, ne_eq, Nat.reduceEqDiff, not_false_eq_true, clK_s, tl_s, tl_n, clr_i, clr_n, clr_a, nI_add, c_isWithin, tI_0, tI_1, tI_2, tI_3, tI_4, tI_5, tI_6, tI_7, tI_8, tI_19, tI_20, tI_23, tI_24, tI_29, tI_30, tI_48, tI_50, tI_57, tI_60, tI_97, tI_100, tI_122, tI_200, tI_99999, tI_m1, tI_m99999, gX_2, gX_0, gL_0, q_2, gW_2 (isW_n (show tz < 15 by omega)), gW_3 (isW_n (show tz < 15 by omega)), gT_0 t36, gT_1 t36, gT_2 t36, gT_3 t36, gT_4 t36, gT_5 t36, gT_6 t36, gT_7 t36, gT_8 t36, gT_9 t36, gT_10 t36, gT_11 t36, gT_12 t36, gT_13 t36, gT_14 t36, gT_15 t36, gT_16 t36, gT_17 t36, pT_10 t36, pT_11 t36, pT_12 t36, pT_13 t36, pT_14 t36, pT_15 t36, pT_16 t36, pT_17 t36, aT_1 t36, aT_2 t36, aT_3 t36, aT_4 t36, aT_5 t36, aT_6 t36, aT_7 t36, aT_8 t36, aT_9 t36, sT_1 t36, sT_2 t36, sT_3 t36, sT_4 t36, sT_5 t36, sT_6 t36, sT_7 t36, sT_8 t36, sT_9 t36, vT t36, q17, e1, hb, hw, bI_0, Bool.true_eq_false, Bool.false_eq_true, not_true_eq_false, not_false_eq_true, if_false, reduceCtorEq, n10, r3]
        · simp (disch := omega) only [e186_0, e186_1, e186_2, e186_5, e186_8, e186_9, e186_10, e186_11, e186_12, e186_15, e186_18, e186_20, e186_21, e186_22, e186_25, e186_26, e186_27, e186_30, e186_31, e186_32, e186_33, ↓reduceIte, gM_0, a_94, inb_n, ix_n, if_true, ne_eq, Nat.reduceEqDiff, not_false_eq_true, vM, clK_s, tl_s, tl_n, clr_i, clr_n, clr_a, nI_add, k_isText hM hX, k_in, rgL_c, tL_0, tL_1, tL_2, tL_3, tL_4, tL_5, tL_6, tL_7, tL_8, tL_19, tL_30, tL_48, tL_50, tL_57, tL_60, tL_97, tL_100, tL_122, tL_200, tL_99999, tL_m1, tL_m99999, hb, hw, bI_0, Bool.true_eq_false, Bool.false_eq_true, not_true_eq_false, not_false_eq_true, if_false, reduceCtorEq, k_textAt, m2']
end Fee
