/-! THE CLASS: seeing, looking -/
section CLook
variable {E : aE} {d h : Nat} {S : aSt} {σ : Nat → Nat → Int32} {A : Tn}
theorem c_seenAlong_l {oz stn : Nat} {f : Nat → Nat} {stv : Int32} (hT : isT h) (hC : CR σ h A) (hW : WFp A) (ho : oz < tN A) (hf : ∀ i, i < stn → nI (f i) + stv = nI (f (i + 1)) ∧ f (i + 1) < 20) (hs : stn < 20) : ∀ r i (bt : Int32) (pq : Nat → Bool) (w8 : Option Value), i + r = stn →
    Rn E (d + 1) 41 17 [some (.ref h), some (.int (nI oz)), some (.int stv), some (.int (nI stn)), some (.int (mk pq 8)), some (.int bt), some (.int (nI (f i))), some (.int (nI i)), w8] [] (shp, σ) = some (some (.int (mk (alF A (tF A oz 2) f r i bt pq) 8)), (shp, σ)) := by
  have hT2 : h = 36 ∨ h = 46 ∨ h = 56 := hT
  have h8 := hW.1
  have q2 := hC.k2 ho
  have qs := hC.sc
  intro r
  induction r with
  | zero =>
    intro i bt pq w8 hi
    have h1 : stn ≤ i := by omega
    simp (disch := omega) only [e41_0, e41_1, e41_3, e41_4, e41_6, e41_7, e41_10, e41_11, e41_12, e41_14, e41_15, e41_17, e41_19, e41_20, e41_23, e41_25, e41_26, e41_27, e41_29, e41_30, e41_33, e41_35, e41_36, e41_37, e41_38, e41_41, e41_43, e41_44, e41_45, e41_48, e41_50, e41_51, e41_53, e41_55, e41_58, e41_60, e41_61, e41_64, e41_65, e41_66, e41_67, e41_70, e41_72, e41_73, e41_76, e41_79, e41_81, e41_82, e41_84, e41_85, e41_86, e41_88, e41_90, e41_91, e41_94, e41_96, e41_97, e41_100, e41_102, e41_105, e41_108, e41_110, nI_leI, h1, if_true, alF]
  | succ r ih =>
    intro i bt pq w8 hi
    have h1 : ¬ stn ≤ i := by omega
    obtain ⟨f1, f2⟩ := hf i (by omega)
    have qw := hC.wh f2
    rw [e41_17]
    simp (disch := omega) only [e41_19, e41_20, e41_23, e41_25, e41_26, e41_27, e41_29, e41_30, e41_33, e41_35, e41_36, e41_37, e41_38, gT_0 hT, gT_1 hT, gT_2 hT, gT_3 hT, gT_4 hT, gT_5 hT, gT_6 hT, gT_7 hT, gT_8 hT, gT_9 hT, gT_10 hT, gT_11 hT, gT_12 hT, gT_13 hT, gT_14 hT, gT_15 hT, gT_16 hT, gT_17 hT, pT_10 hT, pT_11 hT, pT_12 hT, pT_13 hT, pT_14 hT, pT_15 hT, pT_16 hT, pT_17 hT, aT_1 hT, aT_2 hT, aT_3 hT, aT_4 hT, aT_5 hT, aT_6 hT, aT_7 hT, aT_8 hT, aT_9 hT, sT_1 hT, sT_2 hT, sT_3 hT, sT_4 hT, sT_5 hT, sT_6 hT, sT_7 hT, sT_8 hT, sT_9 hT, vT hT, ↓reduceIte, inb_n, ix_n, if_true, ne_eq, Nat.reduceEqDiff, not_false_eq_true, clK_s, tl_s, tl_n, clr_i, clr_n, clr_a, nI_add, nI_leI, h1, f1, qs, sc_0]
    unfold alF
    cases hsc : scB (tC A 50) (nI (f (i + 1))) with
    | true => simp only [Bool.true_eq_false, if_false, if_true, e41_41, e41_43]
    | false =>
      simp (disch := omega) only [if_true, Bool.false_eq_true, if_false, e41_44, e41_45, e41_48, e41_50, e41_51, e41_53, e41_55, gT_0 hT, gT_1 hT, gT_2 hT, gT_3 hT, gT_4 hT, gT_5 hT, gT_6 hT, gT_7 hT, gT_8 hT, gT_9 hT, gT_10 hT, gT_11 hT, gT_12 hT, gT_13 hT, gT_14 hT, gT_15 hT, gT_16 hT, gT_17 hT, pT_10 hT, pT_11 hT, pT_12 hT, pT_13 hT, pT_14 hT, pT_15 hT, pT_16 hT, pT_17 hT, aT_1 hT, aT_2 hT, aT_3 hT, aT_4 hT, aT_5 hT, aT_6 hT, aT_7 hT, aT_8 hT, aT_9 hT, sT_1 hT, sT_2 hT, sT_3 hT, sT_4 hT, sT_5 hT, sT_6 hT, sT_7 hT, sT_8 hT, sT_9 hT, vT hT, ↓reduceIte, inb_n, ix_n, if_true, ne_eq, Nat.reduceEqDiff, not_false_eq_true, clK_s, tl_s, tl_n, clr_i, clr_n, clr_a, nI_add, qw, oI_neg (spW_31 h8)]
      cases hw : spW A (nI (f (i + 1))) with
      | none =>
        simp only [if_true, e41_102, e41_105, ↓reduceIte, inb_n, ix_n, if_true, ne_eq, Nat.reduceEqDiff, not_false_eq_true, clK_s, tl_s, tl_n, clr_i, clr_n, clr_a, nI_add]
        exact ih (i + 1) bt pq _ (by omega)
      | some kz =>
        have hk := (spW_lt hw).1
        have p2 := hC.k2 hk
        simp (disch := omega) only [reduceCtorEq, if_false, oI, e41_58, e41_60, e41_61, e41_64, e41_65, e41_66, e41_67, e41_70, e41_72, e41_73, e41_76, gT_0 hT, gT_1 hT, gT_2 hT, gT_3 hT, gT_4 hT, gT_5 hT, gT_6 hT, gT_7 hT, gT_8 hT, gT_9 hT, gT_10 hT, gT_11 hT, gT_12 hT, gT_13 hT, gT_14 hT, gT_15 hT, gT_16 hT, gT_17 hT, pT_10 hT, pT_11 hT, pT_12 hT, pT_13 hT, pT_14 hT, pT_15 hT, pT_16 hT, pT_17 hT, aT_1 hT, aT_2 hT, aT_3 hT, aT_4 hT, aT_5 hT, aT_6 hT, aT_7 hT, aT_8 hT, aT_9 hT, sT_1 hT, sT_2 hT, sT_3 hT, sT_4 hT, sT_5 hT, sT_6 hT, sT_7 hT, sT_8 hT, sT_9 hT, vT hT, ↓reduceIte, inb_n, ix_n, if_true, ne_eq, Nat.reduceEqDiff, not_false_eq_true, clK_s, tl_s, tl_n, clr_i, clr_n, clr_a, nI_add, q2, p2]
        have hend : ∀ pq2 : Nat → Bool, Rn E (d + 1) 41 88 [some (.ref h), some (.int (nI oz)), some (.int stv), some (.int (nI stn)), some (.int (mk pq2 8)), some (.int bt), some (.int (nI (f (i + 1)))), some (.int (nI i)), some (.int (nI kz))] [] (shp, σ) = some (some (.int (mk (alF A (tF A oz 2) f r (i + 1) (imax bt (tF A kz 2)) pq2) 8)), (shp, σ)) := by
          intro pq2
          simp (disch := omega) only [e41_88, e41_90, e41_91, e41_94, e41_96, e41_97, e41_100, e41_102, e41_105, gT_0 hT, gT_1 hT, gT_2 hT, gT_3 hT, gT_4 hT, gT_5 hT, gT_6 hT, gT_7 hT, gT_8 hT, gT_9 hT, gT_10 hT, gT_11 hT, gT_12 hT, gT_13 hT, gT_14 hT, gT_15 hT, gT_16 hT, gT_17 hT, pT_10 hT, pT_11 hT, pT_12 hT, pT_13 hT, pT_14 hT, pT_15 hT, pT_16 hT, pT_17 hT, aT_1 hT, aT_2 hT, aT_3 hT, aT_4 hT, aT_5 hT, aT_6 hT, aT_7 hT, aT_8 hT, aT_9 hT, sT_1 hT, sT_2 hT, sT_3 hT, sT_4 hT, sT_5 hT, sT_6 hT, sT_7 hT, sT_8 hT, sT_9 hT, vT hT, ↓reduceIte, inb_n, ix_n, if_true, ne_eq, Nat.reduceEqDiff, not_false_eq_true, clK_s, tl_s, tl_n, clr_i, clr_n, clr_a, nI_add, p2]
          exact ih (i + 1) (imax bt (tF A kz 2)) pq2 _ (by omega)
        by_cases hb : bt ≤ imax (tF A oz 2) (tF A kz 2)
        · have hb2 : ¬ imax (tF A oz 2) (tF A kz 2) < bt := Int32.not_lt.mpr hb
          have h3 : mk pq 8 ||| nI 1 <<< (nI kz &&& 31) = mk (fun k => pq k || decide (k = kz)) 8 := by rw [mk_one kz (by omega), mk_oo]
          simp only [hb, hb2, if_true, if_false, e41_79, e41_81, e41_82, e41_84, e41_85, e41_86, clr_i, h3]
          exact hend _
        · have hb2 : imax (tF A oz 2) (tF A kz 2) < bt := Int32.not_le.mp hb
          simp only [hb, hb2, if_true, if_false]
          exact hend _
theorem mk_f : mk (fun _ => false) 8 = nI 0 := by decide +kernel
theorem c_seenAlong {oz stn : Nat} {f : Nat → Nat} {stv : Int32} (hT : isT h) (hC : CR σ h A) (hW : WFp A) (ho : oz < tN A) (hf : ∀ i, i < stn → nI (f i) + stv = nI (f (i + 1)) ∧ f (i + 1) < 20) (hs : stn < 20) (h0 : tF A oz 1 = nI (f 0)) :
    Rn E (d + 1) 41 0 [some (.ref h), some (.int (nI oz)), some (.int stv), some (.int (nI stn)), none, none, none, none, none] [] (shp, σ) = some (some (.int (mk (alF A (tF A oz 2) f stn 0 (nI 0) (fun _ => false)) 8)), (shp, σ)) := by
  have hT2 : h = 36 ∨ h = 46 ∨ h = 56 := hT
  have h8 := hW.1
  have q1 := hC.k1 ho
  simp (disch := omega) only [e41_0, e41_1, e41_3, e41_4, e41_6, e41_7, e41_10, e41_11, e41_12, e41_14, e41_15, gT_0 hT, gT_1 hT, gT_2 hT, gT_3 hT, gT_4 hT, gT_5 hT, gT_6 hT, gT_7 hT, gT_8 hT, gT_9 hT, gT_10 hT, gT_11 hT, gT_12 hT, gT_13 hT, gT_14 hT, gT_15 hT, gT_16 hT, gT_17 hT, pT_10 hT, pT_11 hT, pT_12 hT, pT_13 hT, pT_14 hT, pT_15 hT, pT_16 hT, pT_17 hT, aT_1 hT, aT_2 hT, aT_3 hT, aT_4 hT, aT_5 hT, aT_6 hT, aT_7 hT, aT_8 hT, aT_9 hT, sT_1 hT, sT_2 hT, sT_3 hT, sT_4 hT, sT_5 hT, sT_6 hT, sT_7 hT, sT_8 hT, sT_9 hT, vT hT, ↓reduceIte, inb_n, ix_n, if_true, ne_eq, Nat.reduceEqDiff, not_false_eq_true, clK_s, tl_s, tl_n, clr_i, clr_n, clr_a, nI_add, q1, h0]
  have := c_seenAlong_l (E := E) (d := d) hT hC hW ho hf hs stn 0 (nI 0) (fun _ => false) none (by omega)
  rw [mk_f] at this
  exact this
theorem ad_m1 {pz : Nat} (hp : 1 ≤ pz) : nI pz + (-1) = nI (pz - 1) := by
  rw [show pz = (pz - 1) + 1 by omega, pk_m1, Nat.add_sub_cancel]
theorem ad_m5 {pz : Nat} (hp : 5 ≤ pz) (h20 : pz < 20) : nI pz + (-5) = nI (pz - 5) := by
  have : ∀ a, a < 20 → 5 ≤ a → nI a + (-5) = nI (a - 5) := by decide +kernel
  exact this pz h20 hp
theorem c_seenBy {oz : Nat} (hT : isT h) (hC : CR σ h A) (hW : WFp A) (ho : oz < tN A) :
    Rn E (d + 2) 40 0 [some (.ref h), some (.int (nI oz)), none, none] [] (shp, σ) = some (some (.int (spSs A oz)), (shp, σ)) := by
  have hT2 : h = 36 ∨ h = 46 ∨ h = 56 := hT
  have h8 := hW.1
  have q1 := hC.k1 ho
  obtain ⟨pz, hp, ep⟩ := (hW.2.1 oz ho).1
  have g1 : plc A oz = pz := by unfold plc; rw [ep]; exact ix_n (by omega)
  have aL := c_seenAlong (E := E) (d := d) (f := dL pz) (stv := (-1)) (stn := pz % 5) hT hC hW ho (fun i hi => ⟨by unfold dL; rw [ad_m1 (by omega), Nat.sub_sub], by unfold dL; omega⟩) (by omega) ep
  have aR := c_seenAlong (E := E) (d := d) (f := dR pz) (stv := nI 1) (stn := 4 - pz % 5) hT hC hW ho (fun i hi => ⟨by unfold dR; rw [nI_add, Nat.add_assoc], by unfold dR; omega⟩) (by omega) ep
  have aU := c_seenAlong (E := E) (d := d) (f := dU pz) (stv := (-5)) (stn := pz / 5) hT hC hW ho (fun i hi => ⟨by unfold dU; rw [ad_m5 (by omega) (by omega)]; congr 1, by unfold dU; omega⟩) (by omega) ep
  have aD := c_seenAlong (E := E) (d := d) (f := dD pz) (stv := nI 5) (stn := 3 - pz / 5) hT hC hW ho (fun i hi => ⟨by unfold dD; rw [nI_add]; congr 1, by unfold dD; omega⟩) (by omega) ep
  simp (disch := omega) only [e40_0, e40_1, e40_4, e40_5, e40_6, e40_7, e40_8, e40_9, e40_10, e40_13, e40_14, e40_15, e40_16, e40_17, e40_18, e40_19, e40_20, e40_21, e40_22, e40_25, e40_26, e40_27, e40_28, e40_29, e40_30, e40_31, e40_34, e40_35, e40_36, e40_37, e40_39, e40_40, e40_43, e40_44, e40_45, e40_46, e40_47, e40_48, e40_49, e40_50, e40_53, e40_54, gT_0 hT, gT_1 hT, gT_2 hT, gT_3 hT, gT_4 hT, gT_5 hT, gT_6 hT, gT_7 hT, gT_8 hT, gT_9 hT, gT_10 hT, gT_11 hT, gT_12 hT, gT_13 hT, gT_14 hT, gT_15 hT, gT_16 hT, gT_17 hT, pT_10 hT, pT_11 hT, pT_12 hT, pT_13 hT, pT_14 hT, pT_15 hT, pT_16 hT, pT_17 hT, aT_1 hT, aT_2 hT, aT_3 hT, aT_4 hT, aT_5 hT, aT_6 hT, aT_7 hT, aT_8 hT, aT_9 hT, sT_1 hT, sT_2 hT, sT_3 hT, sT_4 hT, sT_5 hT, sT_6 hT, sT_7 hT, sT_8 hT, sT_9 hT, vT hT, ↓reduceIte, inb_n, ix_n, if_true, ne_eq, Nat.reduceEqDiff, not_false_eq_true, clK_s, tl_s, tl_n, clr_i, clr_n, clr_a, nI_add, q1, ep, dv_n, rm_n, pk_div, rem_n, pk_sub, aL, aR, aU, aD, mk_oo]
  congr 4
  unfold spSs
  rw [← mk_8 h8]
  refine mk_ext (fun k hk => ?_)
  by_cases hkn : k < tN A
  · rw [decide_eq_true hkn, Bool.true_and, ← see_eq hW ho hkn]
    unfold seeP
    rw [g1]
  · rw [decide_eq_false hkn, Bool.false_and]
    have no : ∀ (f : Nat → Nat) (r i : Nat) (bt : Int32) (pq : Nat → Bool), pq k = false → alF A (tF A oz 2) f r i bt pq k = false := by
      intro f r
      induction r with
      | zero => intro i bt pq hq; exact hq
      | succ r ih =>
        intro i bt pq hq
        unfold alF
        split
        · exact hq
        · cases hw : spW A (nI (f (i + 1))) with
          | none => exact ih _ _ _ hq
          | some jz =>
            simp only
            refine ih _ _ _ ?_
            split
            · show (pq k || decide (k = jz)) = false
              rw [hq, decide_eq_false (fun z => hkn (by rw [z]; exact (spW_lt hw).1))]; rfl
            · exact hq
    rw [no _ _ _ _ _ rfl, no _ _ _ _ _ rfl, no _ _ _ _ _ rfl, no _ _ _ _ _ rfl]
    rfl
theorem far_c : ∀ az, az < 5 → ∀ bz, bz < 5 → iabs (nI az - nI bz) = ofB (nI az) (nI bz) := by decide +kernel
theorem wi_c {mz : Nat} {xv : Int32} (hm : mz < 2 ^ 31) : imax (nI 0) (imin (nI mz) xv) = wi mz xv := by
  unfold imax imin wi
  have m := nI_toInt hm
  have z := nI_toInt (n := 0) (by omega)
  by_cases h1 : xv < nI mz
  · have h1i := Int32.lt_iff_toInt_lt.mp h1
    rw [if_pos h1]
    by_cases h2 : xv < nI 0
    · have h2i := Int32.lt_iff_toInt_lt.mp h2
      rw [if_pos h2, if_neg (fun q => by have := Int32.lt_iff_toInt_lt.mp q; omega)]
    · have h2i : ¬ xv.toInt < (nI 0).toInt := fun q => h2 (Int32.lt_iff_toInt_lt.mpr q)
      have h4 : ¬ nI mz < xv := fun q => by have := Int32.lt_iff_toInt_lt.mp q; omega
      rw [if_neg h2, if_neg h4]
      by_cases h3 : nI 0 < xv
      · rw [if_pos h3]
      · have h3i : ¬ (nI 0).toInt < xv.toInt := fun q => h3 (Int32.lt_iff_toInt_lt.mpr q)
        rw [if_neg h3]
        apply Int32.toInt_inj.mp
        omega
  · have h1i : ¬ xv.toInt < (nI mz).toInt := fun q => h1 (Int32.lt_iff_toInt_lt.mpr q)
    rw [if_neg h1]
    have h2 : ¬ xv < nI 0 := fun q => by have := Int32.lt_iff_toInt_lt.mp q; omega
    rw [if_neg h2]
    by_cases h4 : nI mz < xv
    · rw [if_pos h4]
      by_cases h5 : nI 0 < nI mz
      · rw [if_pos h5]
      · have h5i : ¬ (nI 0).toInt < (nI mz).toInt := fun q => h5 (Int32.lt_iff_toInt_lt.mpr q)
        rw [if_neg h5]
        apply Int32.toInt_inj.mp
        omega
    · have h4i : ¬ (nI mz).toInt < xv.toInt := fun q => h4 (Int32.lt_iff_toInt_lt.mpr q)
      rw [if_neg h4]
      have : xv = nI mz := Int32.toInt_inj.mp (by omega)
      rw [this]
      by_cases h5 : nI 0 < nI mz
      · rw [if_pos h5]
      · have h5i : ¬ (nI 0).toInt < (nI mz).toInt := fun q => h5 (Int32.lt_iff_toInt_lt.mpr q)
        rw [if_neg h5]
        apply Int32.toInt_inj.mp
        omega
theorem c_pullOn {oz kz : Nat} (hT : isT h) (hC : CR σ h A) (hX : WFx A) (hR : TR σ (tX A)) (hW : WFp A) (ho : oz < tN A) (hk : kz < tN A) :
    ∃ σ2, Rn E (d + 2) 43 0 [some (.ref h), some (.int (nI oz)), some (.int (nI kz)), none, none, none, none, none] [] (shp, σ) = some (some (.int (spPl A kz (farO A oz kz))), (shp, σ2)) ∧ Fr [3] σ σ2 := by
  have hT2 : h = 36 ∨ h = 46 ∨ h = 56 := hT
  have h8 := hW.1
  have q1 := hC.k1 ho
  have p1 := hC.k1 hk
  have p2 := hC.k2 hk
  have p3 := hC.k3 hk
  have h14 := hX.1
  obtain ⟨pz, hp, ep⟩ := (hW.2.1 oz ho).1
  obtain ⟨qz, hq, eq⟩ := (hW.2.1 kz hk).1
  have g1 : plc A oz = pz := by unfold plc; rw [ep]; exact ix_n (by omega)
  have g2 : plc A kz = qz := by unfold plc; rw [eq]; exact ix_n (by omega)
  obtain ⟨cz, hc, ec⟩ := (hW.2.1 kz hk).2.1
  have hfar : iabs (nI (pz / 5) - nI (qz / 5)) + iabs (nI (pz % 5) - nI (qz % 5)) = farO A oz kz := by
    unfold farO
    rw [g1, g2, far_c _ (by omega) _ (by omega), far_c _ (by omega) _ (by omega)]
  have qc := hC.co (key := 0) (by omega)
  have hend : ∀ (σ1 : Nat → Nat → Int32) (w6 : Option Value) (xv : Int32), Fr [3] σ σ1 → clr w6 = w6 → xv = plP A kz (farO A oz kz) → Rn E (d + 2) 43 97 [some (.ref h), some (.int (nI oz)), some (.int (nI kz)), some (.int (nI pz)), some (.int (nI qz)), some (.int (farO A oz kz)), w6, none] [.int xv] (shp, σ1) = some (some (.int (spPl A kz (farO A oz kz))), (shp, σ1)) := by
    intro σ1 w6 xv hf hw6 hx
    have e1 : σ1 (h + 1) kz = nI cz := by rw [hf (h + 1) (by simp; omega), hC.k0 hk, ec]
    simp (disch := omega) only [e43_97, e43_99, e43_100, e43_103, e43_104, e43_105, e43_106, e43_109, e43_111, e43_114, e43_117, e43_120, gT_0 hT, gT_1 hT, gT_2 hT, gT_3 hT, gT_4 hT, gT_5 hT, gT_6 hT, gT_7 hT, gT_8 hT, gT_9 hT, gT_10 hT, gT_11 hT, gT_12 hT, gT_13 hT, gT_14 hT, gT_15 hT, gT_16 hT, gT_17 hT, pT_10 hT, pT_11 hT, pT_12 hT, pT_13 hT, pT_14 hT, pT_15 hT, pT_16 hT, pT_17 hT, aT_1 hT, aT_2 hT, aT_3 hT, aT_4 hT, aT_5 hT, aT_6 hT, aT_7 hT, aT_8 hT, aT_9 hT, sT_1 hT, sT_2 hT, sT_3 hT, sT_4 hT, sT_5 hT, sT_6 hT, sT_7 hT, sT_8 hT, sT_9 hT, vT hT, ↓reduceIte, inb_n, ix_n, if_true, ne_eq, Nat.reduceEqDiff, not_false_eq_true, clK_s, tl_s, tl_n, clr_i, clr_n, clr_a, nI_add, hw6, e1, wi_c, c_pull hc]
    rw [hx, spPl, ec]
  simp (disch := omega) only [e43_0, e43_1, e43_4, e43_5, e43_6, e43_7, e43_8, e43_11, e43_12, e43_13, e43_15, e43_16, e43_17, e43_18, e43_20, e43_21, e43_22, e43_23, e43_26, e43_27, e43_28, e43_29, e43_31, e43_32, e43_33, e43_34, e43_37, e43_38, e43_40, e43_41, e43_44, e43_45, e43_46, e43_48, gT_0 hT, gT_1 hT, gT_2 hT, gT_3 hT, gT_4 hT, gT_5 hT, gT_6 hT, gT_7 hT, gT_8 hT, gT_9 hT, gT_10 hT, gT_11 hT, gT_12 hT, gT_13 hT, gT_14 hT, gT_15 hT, gT_16 hT, gT_17 hT, pT_10 hT, pT_11 hT, pT_12 hT, pT_13 hT, pT_14 hT, pT_15 hT, pT_16 hT, pT_17 hT, aT_1 hT, aT_2 hT, aT_3 hT, aT_4 hT, aT_5 hT, aT_6 hT, aT_7 hT, aT_8 hT, aT_9 hT, sT_1 hT, sT_2 hT, sT_3 hT, sT_4 hT, sT_5 hT, sT_6 hT, sT_7 hT, sT_8 hT, sT_9 hT, vT hT, ↓reduceIte, inb_n, ix_n, if_true, ne_eq, Nat.reduceEqDiff, not_false_eq_true, clK_s, tl_s, tl_n, clr_i, clr_n, clr_a, nI_add, q1, p1, ep, eq, dv_n, rm_n, pk_div, rem_n, hfar, qc]
  rw [e43_50]
  simp only [oI_pos (lastK_31 hX)]
  cases hl : lastK (tX A) 0 with
  | none =>
    refine ⟨σ, ?_, Fr.rf⟩
    simp (disch := omega) only [ne_eq, not_true_eq_false, if_false, e43_53, e43_54, e43_57, e43_58, e43_59, e43_60, e43_63, e43_64, e43_65, e43_66, e43_67, e43_69, e43_70, e43_71, gT_0 hT, gT_1 hT, gT_2 hT, gT_3 hT, gT_4 hT, gT_5 hT, gT_6 hT, gT_7 hT, gT_8 hT, gT_9 hT, gT_10 hT, gT_11 hT, gT_12 hT, gT_13 hT, gT_14 hT, gT_15 hT, gT_16 hT, gT_17 hT, pT_10 hT, pT_11 hT, pT_12 hT, pT_13 hT, pT_14 hT, pT_15 hT, pT_16 hT, pT_17 hT, aT_1 hT, aT_2 hT, aT_3 hT, aT_4 hT, aT_5 hT, aT_6 hT, aT_7 hT, aT_8 hT, aT_9 hT, sT_1 hT, sT_2 hT, sT_3 hT, sT_4 hT, sT_5 hT, sT_6 hT, sT_7 hT, sT_8 hT, sT_9 hT, vT hT, ↓reduceIte, inb_n, ix_n, if_true, ne_eq, Nat.reduceEqDiff, not_false_eq_true, clK_s, tl_s, tl_n, clr_i, clr_n, clr_a, nI_add, p2, p3]
    exact hend σ _ _ Fr.rf rfl (by unfold plP; rw [hl])
  | some jz =>
    obtain ⟨hj, tx, hg, hk0⟩ := lastK_ok hl
    have hok := hX.2 tx (List.mem_of_getElem? hg)
    obtain ⟨σ2, v1, v2⟩ := c_value (E := E) (d := d) (σ := σ) (tz := jz) (tx := tx) (av := tF A kz 2) (bv := tF A kz 3) (cv := farO A oz kz) (hR jz tx hg) hok (by omega)
    refine ⟨σ2, ?_, v2⟩
    simp (disch := omega) only [ne_eq, reduceCtorEq, not_false_eq_true, if_true, oI, e43_74, e43_75, e43_78, e43_80, e43_81, e43_84, e43_85, e43_86, e43_87, e43_90, e43_91, e43_92, e43_94, gT_0 hT, gT_1 hT, gT_2 hT, gT_3 hT, gT_4 hT, gT_5 hT, gT_6 hT, gT_7 hT, gT_8 hT, gT_9 hT, gT_10 hT, gT_11 hT, gT_12 hT, gT_13 hT, gT_14 hT, gT_15 hT, gT_16 hT, gT_17 hT, pT_10 hT, pT_11 hT, pT_12 hT, pT_13 hT, pT_14 hT, pT_15 hT, pT_16 hT, pT_17 hT, aT_1 hT, aT_2 hT, aT_3 hT, aT_4 hT, aT_5 hT, aT_6 hT, aT_7 hT, aT_8 hT, aT_9 hT, sT_1 hT, sT_2 hT, sT_3 hT, sT_4 hT, sT_5 hT, sT_6 hT, sT_7 hT, sT_8 hT, sT_9 hT, vT hT, ↓reduceIte, inb_n, ix_n, if_true, ne_eq, Nat.reduceEqDiff, not_false_eq_true, clK_s, tl_s, tl_n, clr_i, clr_n, clr_a, nI_add, vL, p2, p3, v1]
    exact hend σ2 _ _ v2 rfl (by simp only [plP, hl, txV, hg])
theorem sz_pos {kz : Nat} (hW : WFp A) (hk : kz < tN A) : (tF A kz 2 = nI 0) ↔ ¬ nI 0 < tF A kz 2 := by
  have r1 := rg_iff.mp (hW.2.1 kz hk).2.2.1
  rw [Int32.lt_iff_toInt_lt, nI_toInt (by omega), ← Int32.toInt_inj, nI_toInt (by omega)]
  omega
theorem CR.of3 {σ1 : Nat → Nat → Int32} (hC : CR σ h A) (hT : isT h) (hf : Fr [3] σ σ1) : CR σ1 h A := hC.ext (fun a h1 h2 h3 => hf a (by have hT2 : h = 36 ∨ h = 46 ∨ h = 56 := hT; simp; omega))
theorem TR.of3 {σ1 : Nat → Nat → Int32} {l : List Tx} (hR : TR σ l) (hf : Fr [3] σ σ1) : TR σ1 l := by
  intro tz tx hg
  have := hR tz tx hg
  unfold TRx at this ⊢
  rw [hf (4 + 2 * tz) (by simp; omega), hf (4 + 2 * tz + 1) (by simp; omega)]
  exact this
theorem c_lookOf_l {az : Nat} (hT : isT h) (hC : CR σ h A) (hX : WFx A) (hR : TR σ (tX A)) (hW : WFp A) (ha : az < tN A) : ∀ r kz (bo : Option Nat) (mv : Int32) (σ1 : Nat → Nat → Int32) (w6 : Option Value), kz + r = tN A → Fr [3] σ σ1 →
    ∃ σ2, Rn E (d + 3) 42 26 [some (.ref h), some (.int (nI az)), some (.int (spSs A az)), some (.int (oI bo)), some (.int mv), some (.int (nI kz)), w6] [] (shp, σ1) = some (some (.int (oI (lkF A az r kz bo mv))), (shp, σ2)) ∧ Fr [3] σ σ2 := by
  have hT2 : h = 36 ∨ h = 46 ∨ h = 56 := hT
  have h8 := hW.1
  intro r
  induction r with
  | zero =>
    intro kz bo mv σ1 w6 hk hf
    have e0 : σ1 h 10 = nI (tN A) := by rw [hf h (by simp; omega)]; exact hC.1
    have h1 : tN A ≤ kz := by omega
    exact ⟨σ1, by simp (disch := omega) only [e42_0, e42_1, e42_4, e42_5, e42_6, e42_7, e42_10, e42_11, e42_12, e42_13, e42_14, e42_17, e42_18, e42_19, e42_20, e42_21, e42_23, e42_24, e42_26, e42_28, e42_29, e42_32, e42_35, e42_36, e42_38, e42_39, e42_40, e42_41, e42_44, e42_45, e42_48, e42_50, e42_51, e42_54, e42_55, e42_56, e42_58, e42_61, e42_62, e42_65, e42_66, e42_67, e42_69, e42_72, e42_74, e42_77, e42_78, e42_79, e42_81, e42_83, e42_85, e42_88, e42_90, e42_91, e42_93, e42_95, e42_98, e42_101, e42_102, gT_0 hT, gT_1 hT, gT_2 hT, gT_3 hT, gT_4 hT, gT_5 hT, gT_6 hT, gT_7 hT, gT_8 hT, gT_9 hT, gT_10 hT, gT_11 hT, gT_12 hT, gT_13 hT, gT_14 hT, gT_15 hT, gT_16 hT, gT_17 hT, pT_10 hT, pT_11 hT, pT_12 hT, pT_13 hT, pT_14 hT, pT_15 hT, pT_16 hT, pT_17 hT, aT_1 hT, aT_2 hT, aT_3 hT, aT_4 hT, aT_5 hT, aT_6 hT, aT_7 hT, aT_8 hT, aT_9 hT, sT_1 hT, sT_2 hT, sT_3 hT, sT_4 hT, sT_5 hT, sT_6 hT, sT_7 hT, sT_8 hT, sT_9 hT, vT hT, ↓reduceIte, inb_n, ix_n, if_true, ne_eq, Nat.reduceEqDiff, not_false_eq_true, clK_s, tl_s, tl_n, clr_i, clr_n, clr_a, nI_add, e0, nI_leI, h1, lkF], hf⟩
  | succ r ih =>
    intro kz bo mv σ1 w6 hk hf
    have hC1 := hC.of3 hT hf
    have hR1 := hR.of3 hf
    have e0 := hC1.1
    have hkz : kz < tN A := by omega
    have h1 : ¬ tN A ≤ kz := by omega
    have p2 := hC1.k2 hkz
    have hb : ((spSs A az >>> (nI kz &&& 31)) &&& nI 1 = nI 0) ↔ spSee A az kz = false := by
      unfold spSs
      rw [← mk_8 h8, mk_bit (by omega), decide_eq_true hkz, Bool.true_and]
    rw [e42_26]
    simp (disch := omega) only [e42_28, e42_29, e42_32, e42_35, e42_36, e42_38, e42_39, e42_40, e42_41, gT_0 hT, gT_1 hT, gT_2 hT, gT_3 hT, gT_4 hT, gT_5 hT, gT_6 hT, gT_7 hT, gT_8 hT, gT_9 hT, gT_10 hT, gT_11 hT, gT_12 hT, gT_13 hT, gT_14 hT, gT_15 hT, gT_16 hT, gT_17 hT, pT_10 hT, pT_11 hT, pT_12 hT, pT_13 hT, pT_14 hT, pT_15 hT, pT_16 hT, pT_17 hT, aT_1 hT, aT_2 hT, aT_3 hT, aT_4 hT, aT_5 hT, aT_6 hT, aT_7 hT, aT_8 hT, aT_9 hT, sT_1 hT, sT_2 hT, sT_3 hT, sT_4 hT, sT_5 hT, sT_6 hT, sT_7 hT, sT_8 hT, sT_9 hT, vT hT, ↓reduceIte, inb_n, ix_n, if_true, ne_eq, Nat.reduceEqDiff, not_false_eq_true, clK_s, tl_s, tl_n, clr_i, clr_n, clr_a, nI_add, e0, nI_leI, h1, hb]
    cases hs : spSee A az kz with
    | false =>
      simp only [if_true, e42_95, e42_98, ↓reduceIte, inb_n, ix_n, if_true, ne_eq, Nat.reduceEqDiff, not_false_eq_true, clK_s, tl_s, tl_n, clr_i, clr_n, clr_a, nI_add, lkF, hs, Bool.false_eq_true, false_and, and_false, if_false]
      exact ih (kz + 1) bo mv σ1 _ (by omega) hf
    | true =>
      simp (disch := omega) only [Bool.true_eq_false, if_false, e42_44, e42_45, e42_48, e42_50, e42_51, gT_0 hT, gT_1 hT, gT_2 hT, gT_3 hT, gT_4 hT, gT_5 hT, gT_6 hT, gT_7 hT, gT_8 hT, gT_9 hT, gT_10 hT, gT_11 hT, gT_12 hT, gT_13 hT, gT_14 hT, gT_15 hT, gT_16 hT, gT_17 hT, pT_10 hT, pT_11 hT, pT_12 hT, pT_13 hT, pT_14 hT, pT_15 hT, pT_16 hT, pT_17 hT, aT_1 hT, aT_2 hT, aT_3 hT, aT_4 hT, aT_5 hT, aT_6 hT, aT_7 hT, aT_8 hT, aT_9 hT, sT_1 hT, sT_2 hT, sT_3 hT, sT_4 hT, sT_5 hT, sT_6 hT, sT_7 hT, sT_8 hT, sT_9 hT, vT hT, ↓reduceIte, inb_n, ix_n, if_true, ne_eq, Nat.reduceEqDiff, not_false_eq_true, clK_s, tl_s, tl_n, clr_i, clr_n, clr_a, nI_add, p2, sz_pos hW hkz]
      by_cases hz : nI 0 < tF A kz 2
      · obtain ⟨σ2, v1, v2⟩ := c_pullOn (E := E) (d := d) hT hC1 hX hR1 hW ha hkz
        have hf2 := hf.tr v2
        have hC2 := hC.of3 hT hf2
        have p4 := hC2.k4 ha
        simp (disch := omega) only [hz, not_true_eq_false, if_false, e42_54, e42_55, e42_56, e42_58, e42_61, e42_62, e42_65, e42_66, e42_67, e42_69, gT_0 hT, gT_1 hT, gT_2 hT, gT_3 hT, gT_4 hT, gT_5 hT, gT_6 hT, gT_7 hT, gT_8 hT, gT_9 hT, gT_10 hT, gT_11 hT, gT_12 hT, gT_13 hT, gT_14 hT, gT_15 hT, gT_16 hT, gT_17 hT, pT_10 hT, pT_11 hT, pT_12 hT, pT_13 hT, pT_14 hT, pT_15 hT, pT_16 hT, pT_17 hT, aT_1 hT, aT_2 hT, aT_3 hT, aT_4 hT, aT_5 hT, aT_6 hT, aT_7 hT, aT_8 hT, aT_9 hT, sT_1 hT, sT_2 hT, sT_3 hT, sT_4 hT, sT_5 hT, sT_6 hT, sT_7 hT, sT_8 hT, sT_9 hT, vT hT, ↓reduceIte, inb_n, ix_n, if_true, ne_eq, Nat.reduceEqDiff, not_false_eq_true, clK_s, tl_s, tl_n, clr_i, clr_n, clr_a, nI_add, v1, p4]
        have hgo : ∀ yv : Int32, spPl A kz (farO A az kz) + yv = lkV A az kz → ∃ σ3, Rn E (d + 3) 42 78 [some (.ref h), some (.int (nI az)), some (.int (spSs A az)), some (.int (oI bo)), some (.int mv), some (.int (nI kz)), w6] [.int yv, .int (spPl A kz (farO A az kz))] (shp, σ2) = some (some (.int (oI (lkF A az (r + 1) kz bo mv))), (shp, σ3)) ∧ Fr [3] σ σ3 := by
          intro yv hy
          simp only [e42_78, e42_79, e42_81, e42_83, e42_85, ↓reduceIte, inb_n, ix_n, if_true, ne_eq, Nat.reduceEqDiff, not_false_eq_true, clK_s, tl_s, tl_n, clr_i, clr_n, clr_a, nI_add, hy]
          by_cases hm : mv < lkV A az kz
          · have hm2 : ¬ lkV A az kz ≤ mv := Int32.not_le.mpr hm
            simp only [hm2, if_false, e42_88, e42_90, e42_91, e42_93, e42_95, e42_98, ↓reduceIte, inb_n, ix_n, if_true, ne_eq, Nat.reduceEqDiff, not_false_eq_true, clK_s, tl_s, tl_n, clr_i, clr_n, clr_a, nI_add, lkF, hz, hs, hm, and_self]
            exact ih (kz + 1) (some kz) _ σ2 _ (by omega) hf2
          · have hm2 : lkV A az kz ≤ mv := Int32.not_lt.mp hm
            simp only [hm2, if_true, e42_88, e42_90, e42_91, e42_93, e42_95, e42_98, ↓reduceIte, inb_n, ix_n, if_true, ne_eq, Nat.reduceEqDiff, not_false_eq_true, clK_s, tl_s, tl_n, clr_i, clr_n, clr_a, nI_add, lkF, hm, and_false, if_false]
            exact ih (kz + 1) bo mv σ2 _ (by omega) hf2
        by_cases hl : tF A az 4 = nI kz
        · simp only [hl, not_true_eq_false, if_false, e42_72, e42_74, e42_77]
          exact hgo _ (by unfold lkV; rw [if_pos hl])
        · simp only [hl, not_false_eq_true, if_true, e42_72, e42_74, e42_77]
          exact hgo _ (by unfold lkV; rw [if_neg hl])
      · simp only [hz, not_false_eq_true, if_true, e42_95, e42_98, ↓reduceIte, inb_n, ix_n, if_true, ne_eq, Nat.reduceEqDiff, not_false_eq_true, clK_s, tl_s, tl_n, clr_i, clr_n, clr_a, nI_add, lkF, false_and, if_false]
        exact ih (kz + 1) bo mv σ1 _ (by omega) hf
theorem c_lookOf {az : Nat} (hT : isT h) (hC : CR σ h A) (hX : WFx A) (hR : TR σ (tX A)) (hW : WFp A) (ha : az < tN A) :
    ∃ σ2, Rn E (d + 3) 42 0 [some (.ref h), some (.int (nI az)), none, none, none, none, none] [] (shp, σ) = some (some (.int (oI (spLk A az))), (shp, σ2)) ∧ Fr [3] σ σ2 := by
  have hT2 : h = 36 ∨ h = 46 ∨ h = 56 := hT
  have h8 := hW.1
  have p0 := hC.k0 ha
  simp (disch := omega) only [e42_0, e42_1, e42_4, e42_5, e42_6, e42_7, gT_0 hT, gT_1 hT, gT_2 hT, gT_3 hT, gT_4 hT, gT_5 hT, gT_6 hT, gT_7 hT, gT_8 hT, gT_9 hT, gT_10 hT, gT_11 hT, gT_12 hT, gT_13 hT, gT_14 hT, gT_15 hT, gT_16 hT, gT_17 hT, pT_10 hT, pT_11 hT, pT_12 hT, pT_13 hT, pT_14 hT, pT_15 hT, pT_16 hT, pT_17 hT, aT_1 hT, aT_2 hT, aT_3 hT, aT_4 hT, aT_5 hT, aT_6 hT, aT_7 hT, aT_8 hT, aT_9 hT, sT_1 hT, sT_2 hT, sT_3 hT, sT_4 hT, sT_5 hT, sT_6 hT, sT_7 hT, sT_8 hT, sT_9 hT, vT hT, ↓reduceIte, inb_n, ix_n, if_true, ne_eq, Nat.reduceEqDiff, not_false_eq_true, clK_s, tl_s, tl_n, clr_i, clr_n, clr_a, nI_add, p0, spLk]
  by_cases hk : tF A az 0 = nI 3
  · simp only [hk, not_true_eq_false, if_false, if_true, oI, e42_10, e42_11]
    exact ⟨σ, rfl, Fr.rf⟩
  · simp only [hk, not_false_eq_true, if_false, if_true, e42_12, e42_13, e42_14, e42_17, e42_18, e42_19, e42_20, e42_21, e42_23, e42_24, gT_0 hT, gT_1 hT, gT_2 hT, gT_3 hT, gT_4 hT, gT_5 hT, gT_6 hT, gT_7 hT, gT_8 hT, gT_9 hT, gT_10 hT, gT_11 hT, gT_12 hT, gT_13 hT, gT_14 hT, gT_15 hT, gT_16 hT, gT_17 hT, pT_10 hT, pT_11 hT, pT_12 hT, pT_13 hT, pT_14 hT, pT_15 hT, pT_16 hT, pT_17 hT, aT_1 hT, aT_2 hT, aT_3 hT, aT_4 hT, aT_5 hT, aT_6 hT, aT_7 hT, aT_8 hT, aT_9 hT, sT_1 hT, sT_2 hT, sT_3 hT, sT_4 hT, sT_5 hT, sT_6 hT, sT_7 hT, sT_8 hT, sT_9 hT, vT hT, ↓reduceIte, inb_n, ix_n, if_true, ne_eq, Nat.reduceEqDiff, not_false_eq_true, clK_s, tl_s, tl_n, clr_i, clr_n, clr_a, nI_add, c_seenBy hT hC hW ha]
    exact c_lookOf_l hT hC hX hR hW ha (tN A) 0 none (-1) σ none (by omega) Fr.rf
end CLook
