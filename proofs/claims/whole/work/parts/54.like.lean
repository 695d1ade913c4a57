/-! WHOSE SIZES A ROW TELLS -/
def dfS (c : Nat → Int32) (A : Tn) (oz : Nat) : Nat → Int32
  | 0 => nI 0
  | i + 1 => dfS c A oz i + (if c i = (-1000000005) then nI 0 else ofB (c i) (tF (spDays i A) oz 2))
def lbF (D : Nat → Int32) : Nat → Nat → Nat → Nat
  | 0, _, b => b
  | r + 1, kz, b => lbF D r (kz + 1) (if D kz < D b then kz else b)
theorem lbF_lt {D : Nat → Int32} : ∀ r kz b n, b < n → kz + r ≤ n → lbF D r kz b < n := by
  intro r
  induction r with
  | zero => intro kz b n hb _; exact hb
  | succ r ih =>
    intro kz b n hb hk
    unfold lbF
    refine ih _ _ _ ?_ (by omega)
    split <;> omega
theorem abs_of {sv cv : Int32} (hs : rg 0 200 sv = true) (hc : rg (-99999) 99999 cv = true) : iabs (sv - cv) = ofB cv sv := by
  have r1 := rg_iff.mp hs
  have r2 := rg_iff.mp hc
  have hsub : (sv - cv).toInt = sv.toInt - cv.toInt := by
    rw [Int32.toInt_sub]
    exact Int.bmod_eq_of_le (by omega) (by omega)
  have hsub2 : (cv - sv).toInt = cv.toInt - sv.toInt := by
    rw [Int32.toInt_sub]
    exact Int.bmod_eq_of_le (by omega) (by omega)
  unfold iabs ofB
  have z0 : (0 : Int32).toInt = 0 := by decide +kernel
  by_cases h : cv < sv
  · have hi := Int32.lt_iff_toInt_lt.mp h
    rw [if_pos h, if_pos (by rw [Int32.le_iff_toInt_le, hsub, z0]; omega)]
  · have hi : ¬ cv.toInt < sv.toInt := fun z => h (Int32.lt_iff_toInt_lt.mpr z)
    rw [if_neg h]
    by_cases h2 : (0 : Int32) ≤ sv - cv
    · rw [if_pos h2]
      rw [Int32.le_iff_toInt_le, hsub, z0] at h2
      apply Int32.toInt_inj.mp
      rw [hsub, hsub2]
      omega
    · rw [if_neg h2]
      apply Int32.toInt_inj.mp
      rw [Int32.toInt_sub, hsub, hsub2, z0]
      rw [Int.bmod_eq_of_le (by omega) (by omega)]
      omega
section Like
variable {E : aE} {d : Nat} {σ : Nat → Nat → Int32} {A B : Tn} {im : Bool}
theorem c_diff_z {hr : Nat} : ∀ r kz (σ1 : Nat → Nat → Int32) (w3 : Option Value), kz + r = 8 → Fr [69] σ σ1 → (∀ j, j < kz → σ1 69 j = nI 0) →
    ∃ σ2, Rn E d 103 2 [some (.ref 0), some (.ref hr), some (.int (nI kz)), w3] [] (shp, σ1) = Rn E d 103 21 [some (.ref 0), some (.ref hr), some (.int (nI 8)), w3] [] (shp, σ2) ∧ Fr [69] σ σ2 ∧ ∀ j, j < 8 → σ2 69 j = nI 0 := by
  intro r
  induction r with
  | zero =>
    intro kz σ1 w3 hk hf hz
    have h1 : 8 ≤ kz := by omega
    have h2 : kz = 8 := by omega
    refine ⟨σ1, ?_, hf, fun j hj => hz j (by omega)⟩
    rw [e103_2]
    simp (disch := omega) only [e103_3, e103_5, ↓reduceIte, inb_n, ix_n, if_true, ne_eq, Nat.reduceEqDiff, not_false_eq_true, clK_s, tl_s, tl_n, clr_i, clr_n, clr_a, nI_add, nI_leI, h1]
    rw [h2]
  | succ r ih =>
    intro kz σ1 w3 hk hf hz
    have h1 : ¬ 8 ≤ kz := by omega
    obtain ⟨σ2, g1, g2⟩ := ih (kz + 1) (su σ1 69 kz (nI 0)) w3 (by omega) (hf.su (by decide)) (by
      intro j hj
      rw [su_rf]
      by_cases hq : j = kz
      · rw [hq, pk_us]
      · rw [pk_un hq]; exact hz j (by omega))
    refine ⟨σ2, ?_, g2⟩
    rw [← g1]
    conv => lhs; rw [e103_2]
    simp (disch := omega) only [e103_3, e103_5, e103_8, e103_9, e103_12, e103_13, e103_14, e103_15, e103_18, ↓reduceIte, inb_n, ix_n, if_true, ne_eq, Nat.reduceEqDiff, not_false_eq_true, clK_s, tl_s, tl_n, clr_i, clr_n, clr_a, nI_add, nI_leI, h1, gX_8, s_69]
theorem c_diff_i {sz pz : Nat} {T : Tn} {c D : Nat → Int32} (hs : sz < 4) (hp : pz < 24) (hT : WFp T) (hN : tN T = tN A) (hcz : ¬ c pz = (-1000000005)) (hcr : rg (-99999) 99999 (c pz) = true) : ∀ r kz (σ1 : Nat → Nat → Int32), kz + r = tN A → Fr [69] σ σ1 → σ 36 10 = nI (tN A) → CR σ 56 T → σ (70 + 2 * sz + 1) pz = c pz → (∀ j, j < tN A → σ1 69 j = if j < kz then D j + ofB (c pz) (tF T j 2) else D j) →
    ∃ σ2, Rn E (d + 1) 103 56 [some (.ref 0), some (.ref (70 + 2 * sz)), some (.int (nI pz)), some (.int (nI kz))] [] (shp, σ1) = Rn E (d + 1) 103 112 [some (.ref 0), some (.ref (70 + 2 * sz)), some (.int (nI pz)), some (.int (nI (tN A)))] [] (shp, σ2) ∧ Fr [69] σ σ2 ∧ ∀ j, j < tN A → σ2 69 j = D j + ofB (c pz) (tF T j 2) := by
  have h8 : tN A ≤ 8 := by rw [← hN]; exact hT.1
  intro r
  induction r with
  | zero =>
    intro kz σ1 hk hf e0 hC ec hd
    have h1 : tN A ≤ kz := by omega
    have h2 : kz = tN A := by omega
    have e0' : σ1 36 10 = nI (tN A) := by rw [hf 36 (by decide)]; exact e0
    refine ⟨σ1, ?_, hf, fun j hj => by rw [hd j hj, if_pos (by omega)]⟩
    rw [e103_56]
    simp (disch := omega) only [e103_57, e103_58, e103_61, e103_64, ↓reduceIte, inb_n, ix_n, if_true, ne_eq, Nat.reduceEqDiff, not_false_eq_true, clK_s, tl_s, tl_n, clr_i, clr_n, clr_a, nI_add, gX_2, gT_0 t36, gT_1 t36, gT_2 t36, gT_3 t36, gT_4 t36, gT_5 t36, gT_6 t36, gT_7 t36, gT_8 t36, gT_9 t36, gT_10 t36, gT_11 t36, gT_12 t36, gT_13 t36, gT_14 t36, gT_15 t36, gT_16 t36, gT_17 t36, pT_10 t36, pT_11 t36, pT_12 t36, pT_13 t36, pT_14 t36, pT_15 t36, pT_16 t36, pT_17 t36, aT_1 t36, aT_2 t36, aT_3 t36, aT_4 t36, aT_5 t36, aT_6 t36, aT_7 t36, aT_8 t36, aT_9 t36, sT_1 t36, sT_2 t36, sT_3 t36, sT_4 t36, sT_5 t36, sT_6 t36, sT_7 t36, sT_8 t36, sT_9 t36, vT t36, e0', nI_leI, h1]
    rw [h2]
  | succ r ih =>
    intro kz σ1 hk hf e0 hC ec hd
    have h1 : ¬ tN A ≤ kz := by omega
    have hkn : kz < tN A := by omega
    have e0' : σ1 36 10 = nI (tN A) := by rw [hf 36 (by decide)]; exact e0
    have ec' : σ1 (70 + 2 * sz + 1) pz = c pz := by rw [hf _ (by simp; omega)]; exact ec
    have q2 : σ1 (56 + 3) kz = tF T kz 2 := by rw [hf _ (by decide)]; exact hC.k2 (by rw [hN]; exact hkn)
    have qd : σ1 69 kz = D kz := by rw [hd kz hkn, if_neg (by omega)]
    have hab := abs_of (hT.2.1 kz (by rw [hN]; exact hkn)).2.2.1 hcr
    obtain ⟨σ2, g1, g2⟩ := ih (kz + 1) (su σ1 69 kz (D kz + ofB (c pz) (tF T kz 2))) (by omega) (hf.su (by decide)) e0 hC ec (by
      intro j hj
      rw [su_rf]
      by_cases hq : j = kz
      · rw [hq, pk_us, if_pos (by omega)]
      · rw [pk_un hq, hd j hj]
        by_cases hq2 : j < kz
        · rw [if_pos hq2, if_pos (by omega)]
        · rw [if_neg hq2, if_neg (by omega)])
    refine ⟨σ2, ?_, g2⟩
    rw [← g1]
    conv => lhs; rw [e103_56]
    simp (disch := omega) only [e103_57, e103_58, e103_61, e103_64, e103_67, e103_68, e103_71, e103_72, e103_73, e103_75, e103_78, e103_79, e103_82, e103_83, e103_84, e103_85, e103_86, e103_89, e103_92, e103_93, e103_94, e103_95, e103_98, e103_99, e103_100, e103_101, e103_104, e103_105, e103_106, e103_109, ↓reduceIte, inb_n, ix_n, if_true, ne_eq, Nat.reduceEqDiff, not_false_eq_true, clK_s, tl_s, tl_n, clr_i, clr_n, clr_a, nI_add, gX_2, gX_4, gX_8, gT_0 t36, gT_1 t36, gT_2 t36, gT_3 t36, gT_4 t36, gT_5 t36, gT_6 t36, gT_7 t36, gT_8 t36, gT_9 t36, gT_10 t36, gT_11 t36, gT_12 t36, gT_13 t36, gT_14 t36, gT_15 t36, gT_16 t36, gT_17 t36, pT_10 t36, pT_11 t36, pT_12 t36, pT_13 t36, pT_14 t36, pT_15 t36, pT_16 t36, pT_17 t36, aT_1 t36, aT_2 t36, aT_3 t36, aT_4 t36, aT_5 t36, aT_6 t36, aT_7 t36, aT_8 t36, aT_9 t36, sT_1 t36, sT_2 t36, sT_3 t36, sT_4 t36, sT_5 t36, sT_6 t36, sT_7 t36, sT_8 t36, sT_9 t36, vT t36, gT_3 t56, aT_3 t56, e0', nI_leI, h1, gH_0 (isH_n hs), aH_1 (isH_n hs), ec', hcz, a_69, s_69, qd, q2, hab]
theorem c_diff_l {sz n : Nat} {c : Nat → Int32} (hs : sz < 4) (hn : n ≤ 24) (hW : WFp A) (hX : WFx A) (hc : ∀ i, i < 24 → c i = (-1000000005) ∨ rg (-99999) 99999 (c i) = true) : ∀ r iz (U : Tn) (σ1 : Nat → Nat → Int32) (w3 : Option Value), iz + r = n → (iz = 0 ∧ U = A ∨ 0 < iz ∧ U = spDays (iz - 1) A) → CR σ1 36 A → CR σ1 56 U → TR σ1 (tX A) → σ1 (70 + 2 * sz) 2 = nI n → (∀ i, i < 24 → σ1 (70 + 2 * sz + 1) i = c i) → (∀ j, j < tN A → σ1 69 j = dfS c A j iz) →
    ∃ σ2, Rn E (d + 6) 103 34 [some (.ref 0), some (.ref (70 + 2 * sz)), some (.int (nI iz)), w3] [] (shp, σ1) = some (none, (shp, σ2)) ∧ (∀ a, a ≠ 3 → (a < 56 ∨ 66 ≤ a) → a ≠ 69 → σ2 a = σ1 a) ∧ ∀ j, j < tN A → σ2 69 j = dfS c A j n := by
  have h8 := hW.1
  intro r
  induction r with
  | zero =>
    intro iz U σ1 w3 hi hU hC hD hR e2 ec hd
    have h1 : n ≤ iz := by omega
    have h2 : iz = n := by omega
    refine ⟨σ1, ?_, fun _ _ _ _ => rfl, by rw [← h2]; exact hd⟩
    rw [e103_34]
    simp (disch := omega) only [e103_35, e103_36, e103_39, e103_118, ↓reduceIte, inb_n, ix_n, if_true, ne_eq, Nat.reduceEqDiff, not_false_eq_true, clK_s, tl_s, tl_n, clr_i, clr_n, clr_a, nI_add, gH_2 (isH_n hs), e2, nI_leI, h1]
  | succ r ih =>
    intro iz U σ1 w3 hi hU hC hD hR e2 ec hd
    have h1 : ¬ n ≤ iz := by omega
    obtain ⟨o1, o2, o3, o4, o5⟩ := days_k (r := iz) hW
    have hlive : ∃ σ2, Rn E (d + 6) 103 34 [some (.ref 0), some (.ref (70 + 2 * sz)), some (.int (nI iz)), w3] [] (shp, σ1) = Rn E (d + 6) 103 54 [some (.ref 0), some (.ref (70 + 2 * sz)), some (.int (nI iz)), w3] [] (shp, σ2) ∧ FT 56 σ1 σ2 ∧ CR σ2 56 (spDays iz A) := by
      rcases hU with ⟨h0, rfl⟩ | ⟨h0, rfl⟩
      · have h3 : iz ≤ 0 := by omega
        refine ⟨σ1, ?_, FT.rf, by rw [h0]; exact hD⟩
        rw [e103_34]
        simp (disch := omega) only [e103_35, e103_36, e103_39, e103_42, e103_43, e103_46, e103_47, e103_50, e103_51, ↓reduceIte, inb_n, ix_n, if_true, ne_eq, Nat.reduceEqDiff, not_false_eq_true, clK_s, tl_s, tl_n, clr_i, clr_n, clr_a, nI_add, gH_2 (isH_n hs), e2, nI_leI, h1, h3]
      · have h3 : ¬ iz ≤ 0 := by omega
        obtain ⟨p1, p2, p3, p4, p5⟩ := days_k (r := iz - 1) hW
        obtain ⟨σ2, a1, a2, a3⟩ := c_live (E := E) (d := d) (nz := 1) (by omega) t56 hD p1 (WFx_of p3 hX) (by rw [p3]; exact hR)
        refine ⟨σ2, ?_, a2, ?_⟩
        · rw [e103_34]
          simp (disch := omega) only [e103_35, e103_36, e103_39, e103_42, e103_43, e103_46, e103_47, e103_50, e103_51, ↓reduceIte, inb_n, ix_n, if_true, ne_eq, Nat.reduceEqDiff, not_false_eq_true, clK_s, tl_s, tl_n, clr_i, clr_n, clr_a, nI_add, gH_2 (isH_n hs), e2, nI_leI, h1, h3, gX_4, vT t56, a1]
        · have : spDays iz A = spDays 1 (spDays (iz - 1) A) := by
            rw [show iz = (iz - 1) + 1 by omega, spDays_s (r := iz - 1)]
            rfl
          rw [this]
          exact a3
    obtain ⟨σ2, v1, v2, v3⟩ := hlive
    have e0' : σ2 36 10 = nI (tN A) := by rw [v2 36 (by omega) (by omega)]; exact hC.1
    have ec2 : σ2 (70 + 2 * sz + 1) iz = c iz := by rw [v2 _ (by omega) (by omega)]; exact ec iz (by omega)
    have hd2 : ∀ j, j < tN A → σ2 69 j = dfS c A j iz := fun j hj => by rw [v2 69 (by omega) (by omega)]; exact hd j hj
    rw [v1]
    have hfin : ∀ (σ3 : Nat → Nat → Int32) (w4 : Option Value), (∀ a, a ≠ 69 → σ3 a = σ2 a) → (∀ j, j < tN A → σ3 69 j = dfS c A j (iz + 1)) → ∃ σ4, Rn E (d + 6) 103 112 [some (.ref 0), some (.ref (70 + 2 * sz)), some (.int (nI iz)), w4] [] (shp, σ3) = some (none, (shp, σ4)) ∧ (∀ a, a ≠ 3 → (a < 56 ∨ 66 ≤ a) → a ≠ 69 → σ4 a = σ1 a) ∧ ∀ j, j < tN A → σ4 69 j = dfS c A j n := by
      intro σ3 w4 h3 h4
      have hall : ∀ a, a ≠ 3 → (a < 56 ∨ 66 ≤ a) → a ≠ 69 → σ3 a = σ1 a := fun a x1 x2 x3 => by rw [h3 a x3, v2 a x1 (by omega)]
      obtain ⟨σ4, g1, g2, g3⟩ := ih (iz + 1) (spDays iz A) σ3 w4 (by omega) (Or.inr ⟨by omega, by rw [Nat.add_sub_cancel]⟩) (hC.ext (fun a x1 x2 _ => hall a (by omega) (by omega) (by omega))) (v3.ext (fun a x1 x2 _ => h3 a (by omega))) (hR.ext hX.1 (fun a x1 x2 => hall a (by omega) (by omega) (by omega))) (by rw [hall _ (by omega) (by omega) (by omega)]; exact e2) (fun i hi => by rw [hall _ (by omega) (by omega) (by omega)]; exact ec i hi) h4
      refine ⟨σ4, ?_, fun a x1 x2 x3 => by rw [g2 a x1 x2 x3, hall a x1 x2 x3], g3⟩
      rw [← g1]
      simp only [e103_112, e103_115, ↓reduceIte, inb_n, ix_n, if_true, ne_eq, Nat.reduceEqDiff, not_false_eq_true, clK_s, tl_s, tl_n, clr_i, clr_n, clr_a, nI_add]
    by_cases hz : c iz = (-1000000005)
    · rw [hz] at ec2
      by_cases hn0 : tN A ≤ 0
      · obtain ⟨σ4, g1, g2⟩ := hfin σ2 (some (.int (nI 0))) (fun _ _ => rfl) (fun j hj => by omega)
        refine ⟨σ4, ?_, g2⟩
        rw [← g1]
        simp (disch := omega) only [e103_54, e103_55, e103_56, e103_57, e103_58, e103_61, e103_64, ↓reduceIte, inb_n, ix_n, if_true, ne_eq, Nat.reduceEqDiff, not_false_eq_true, clK_s, tl_s, tl_n, clr_i, clr_n, clr_a, nI_add, gX_2, gT_0 t36, gT_1 t36, gT_2 t36, gT_3 t36, gT_4 t36, gT_5 t36, gT_6 t36, gT_7 t36, gT_8 t36, gT_9 t36, gT_10 t36, gT_11 t36, gT_12 t36, gT_13 t36, gT_14 t36, gT_15 t36, gT_16 t36, gT_17 t36, pT_10 t36, pT_11 t36, pT_12 t36, pT_13 t36, pT_14 t36, pT_15 t36, pT_16 t36, pT_17 t36, aT_1 t36, aT_2 t36, aT_3 t36, aT_4 t36, aT_5 t36, aT_6 t36, aT_7 t36, aT_8 t36, aT_9 t36, sT_1 t36, sT_2 t36, sT_3 t36, sT_4 t36, sT_5 t36, sT_6 t36, sT_7 t36, sT_8 t36, sT_9 t36, vT t36, e0', nI_leI, hn0]
      · obtain ⟨σ4, g1, g2⟩ := hfin σ2 (some (.int (nI 0))) (fun _ _ => rfl) (fun j hj => by rw [hd2 j hj, dfS, if_pos hz, add_n0])
        refine ⟨σ4, ?_, g2⟩
        rw [← g1]
        simp (disch := omega) only [e103_54, e103_55, e103_56, e103_57, e103_58, e103_61, e103_64, e103_67, e103_68, e103_71, e103_72, e103_73, e103_75, ↓reduceIte, inb_n, ix_n, if_true, ne_eq, Nat.reduceEqDiff, not_false_eq_true, clK_s, tl_s, tl_n, clr_i, clr_n, clr_a, nI_add, gX_2, gT_0 t36, gT_1 t36, gT_2 t36, gT_3 t36, gT_4 t36, gT_5 t36, gT_6 t36, gT_7 t36, gT_8 t36, gT_9 t36, gT_10 t36, gT_11 t36, gT_12 t36, gT_13 t36, gT_14 t36, gT_15 t36, gT_16 t36, gT_17 t36, pT_10 t36, pT_11 t36, pT_12 t36, pT_13 t36, pT_14 t36, pT_15 t36, pT_16 t36, pT_17 t36, aT_1 t36, aT_2 t36, aT_3 t36, aT_4 t36, aT_5 t36, aT_6 t36, aT_7 t36, aT_8 t36, aT_9 t36, sT_1 t36, sT_2 t36, sT_3 t36, sT_4 t36, sT_5 t36, sT_6 t36, sT_7 t36, sT_8 t36, sT_9 t36, vT t36, e0', nI_leI, hn0, gH_0 (isH_n hs), aH_1 (isH_n hs), ec2]
    · have hcr : rg (-99999) 99999 (c iz) = true := by
        rcases hc iz (by omega) with h | h
        · exact absurd h hz
        · exact h
      obtain ⟨σ3, b1, b2, b3⟩ := c_diff_i (E := E) (d := d + 5) (A := A) (σ := σ2) (T := spDays iz A) (c := c) (D := fun j => dfS c A j iz) hs (show iz < 24 by omega) o1 o2 hz hcr (tN A) 0 σ2 (by omega) Fr.rf e0' v3 ec2 (fun j hj => by rw [if_neg (by omega)]; exact hd2 j hj)
      obtain ⟨σ4, g1, g2⟩ := hfin σ3 (some (.int (nI (tN A)))) (fun a ha => b2 a (by simpa using ha)) (fun j hj => by rw [b3 j hj, dfS, if_neg hz])
      refine ⟨σ4, ?_, g2⟩
      rw [← g1, ← b1]
      simp only [e103_54, e103_55, ↓reduceIte, inb_n, ix_n, if_true, ne_eq, Nat.reduceEqDiff, not_false_eq_true, clK_s, tl_s, tl_n, clr_i, clr_n, clr_a, nI_add]
theorem c_addDiff {sz n : Nat} {c : Nat → Int32} (hs : sz < 4) (hn : n ≤ 24) (hW : WFp A) (hX : WFx A) (hc : ∀ i, i < 24 → c i = (-1000000005) ∨ rg (-99999) 99999 (c i) = true) (hC : CR σ 36 A) (hR : TR σ (tX A)) (e2 : σ (70 + 2 * sz) 2 = nI n) (ec : ∀ i, i < 24 → σ (70 + 2 * sz + 1) i = c i) :
    ∃ σ2, Rn E (d + 6) 103 0 [some (.ref 0), some (.ref (70 + 2 * sz)), none, none] [] (shp, σ) = some (none, (shp, σ2)) ∧ (∀ a, a ≠ 3 → (a < 56 ∨ 66 ≤ a) → a ≠ 69 → σ2 a = σ a) ∧ ∀ j, j < tN A → σ2 69 j = dfS c A j n := by
  have h8 := hW.1
  obtain ⟨σ1, a1, a2, a3⟩ := c_diff_z (E := E) (d := d + 6) (σ := σ) (hr := 70 + 2 * sz) 8 0 σ none (by omega) Fr.rf (fun j hj => by omega)
  have hC1 : CR σ1 36 A := hC.ext (fun a x1 x2 _ => a2 a (by simp; omega))
  obtain ⟨σ2, b1, b2, b3⟩ := c_takes (E := E) (d := d + 4) t56 t36 (by decide) hC1 h8
  have hall : ∀ a, a ≠ 3 → (a < 56 ∨ 66 ≤ a) → a ≠ 69 → σ2 a = σ a := fun a x1 x2 x3 => by rw [b2 a x1 (by omega), a2 a (by simpa using x3)]
  obtain ⟨σ3, g1, g2, g3⟩ := c_diff_l (E := E) (d := d) (n := n) hs hn hW hX hc n 0 A σ2 none (by omega) (Or.inl ⟨rfl, rfl⟩) (hC.ext (fun a x1 x2 _ => hall a (by omega) (by omega) (by omega))) b3 (hR.ext hX.1 (fun a x1 x2 => hall a (by omega) (by omega) (by omega))) (by rw [hall _ (by omega) (by omega) (by omega)]; exact e2) (fun i hi => by rw [hall _ (by omega) (by omega) (by omega)]; exact ec i hi) (fun j hj => by rw [b2 69 (by omega) (by omega)]; exact a3 j (by omega))
  refine ⟨σ3, ?_, fun a x1 x2 x3 => by rw [g2 a x1 x2 x3, hall a x1 x2 x3], g3⟩
  simp only [e103_0, e103_1, clr_a, clr_i]
  rw [a1]
  simp (disch := omega) only [e103_21, e103_22, e103_25, e103_26, e103_29, e103_32, e103_33, ↓reduceIte, inb_n, ix_n, if_true, ne_eq, Nat.reduceEqDiff, not_false_eq_true, clK_s, tl_s, tl_n, clr_i, clr_n, clr_a, nI_add, gX_4, gX_2, vT t56, b1]
  exact g1
theorem c_like_l {n : Nat} {D : Nat → Int32} {w1 : Option Value} {yv : Int32} (hn : n ≤ 8) (e0 : σ 36 10 = nI n) (hD : ∀ j, j < n → σ 69 j = D j) : ∀ r kz b, kz + r = n → b < n →
    Rn E d 75 65 [some (.ref 0), w1, some (.int yv), some (.int (nI b)), some (.int (nI kz))] [] (shp, σ) = some (some (.int (if yv = nI 0 then nI (lbF D r kz b) else D (lbF D r kz b))), (shp, σ)) := by
  intro r
  induction r with
  | zero =>
    intro kz b hk hb
    have h1 : n ≤ kz := by omega
    have q := hD b hb
    rw [e75_65]
    simp (disch := omega) only [e75_67, e75_68, e75_71, e75_74, e75_77, e75_78, e75_81, e75_83, e75_84, e75_85, e75_88, e75_89, e75_90, e75_93, e75_95, e75_96, e75_99, e75_102, e75_103, e75_106, e75_107, e75_110, e75_111, e75_114, e75_115, e75_116, ↓reduceIte, inb_n, ix_n, if_true, ne_eq, Nat.reduceEqDiff, not_false_eq_true, clK_s, tl_s, tl_n, clr_i, clr_n, clr_a, nI_add, gX_2, gX_8, gT_0 t36, gT_1 t36, gT_2 t36, gT_3 t36, gT_4 t36, gT_5 t36, gT_6 t36, gT_7 t36, gT_8 t36, gT_9 t36, gT_10 t36, gT_11 t36, gT_12 t36, gT_13 t36, gT_14 t36, gT_15 t36, gT_16 t36, gT_17 t36, pT_10 t36, pT_11 t36, pT_12 t36, pT_13 t36, pT_14 t36, pT_15 t36, pT_16 t36, pT_17 t36, aT_1 t36, aT_2 t36, aT_3 t36, aT_4 t36, aT_5 t36, aT_6 t36, aT_7 t36, aT_8 t36, aT_9 t36, sT_1 t36, sT_2 t36, sT_3 t36, sT_4 t36, sT_5 t36, sT_6 t36, sT_7 t36, sT_8 t36, sT_9 t36, vT t36, e0, nI_leI, h1, a_69, q, lbF]
    by_cases hy : yv = nI 0 <;> simp [hy]
  | succ r ih =>
    intro kz b hk hb
    have h1 : ¬ n ≤ kz := by omega
    have q := hD b hb
    have q2 := hD kz (by omega)
    rw [e75_65]
    unfold lbF
    by_cases hlt : D kz < D b
    · have hle : ¬ D b ≤ D kz := Int32.not_le.mpr hlt
      rw [if_pos hlt, ← ih (kz + 1) kz (by omega) (by omega)]
      simp (disch := omega) only [e75_67, e75_68, e75_71, e75_74, e75_77, e75_78, e75_81, e75_83, e75_84, e75_85, e75_88, e75_89, e75_90, e75_93, e75_95, e75_96, e75_99, ↓reduceIte, inb_n, ix_n, if_true, ne_eq, Nat.reduceEqDiff, not_false_eq_true, clK_s, tl_s, tl_n, clr_i, clr_n, clr_a, nI_add, gX_2, gX_8, gT_0 t36, gT_1 t36, gT_2 t36, gT_3 t36, gT_4 t36, gT_5 t36, gT_6 t36, gT_7 t36, gT_8 t36, gT_9 t36, gT_10 t36, gT_11 t36, gT_12 t36, gT_13 t36, gT_14 t36, gT_15 t36, gT_16 t36, gT_17 t36, pT_10 t36, pT_11 t36, pT_12 t36, pT_13 t36, pT_14 t36, pT_15 t36, pT_16 t36, pT_17 t36, aT_1 t36, aT_2 t36, aT_3 t36, aT_4 t36, aT_5 t36, aT_6 t36, aT_7 t36, aT_8 t36, aT_9 t36, sT_1 t36, sT_2 t36, sT_3 t36, sT_4 t36, sT_5 t36, sT_6 t36, sT_7 t36, sT_8 t36, sT_9 t36, vT t36, e0, nI_leI, h1, a_69, q, q2, hle]
    · have hle : D b ≤ D kz := Int32.not_lt.mp hlt
      rw [if_neg hlt, ← ih (kz + 1) b (by omega) hb]
      simp (disch := omega) only [e75_67, e75_68, e75_71, e75_74, e75_77, e75_78, e75_81, e75_83, e75_84, e75_85, e75_88, e75_89, e75_90, e75_93, e75_95, e75_96, e75_99, ↓reduceIte, inb_n, ix_n, if_true, ne_eq, Nat.reduceEqDiff, not_false_eq_true, clK_s, tl_s, tl_n, clr_i, clr_n, clr_a, nI_add, gX_2, gX_8, gT_0 t36, gT_1 t36, gT_2 t36, gT_3 t36, gT_4 t36, gT_5 t36, gT_6 t36, gT_7 t36, gT_8 t36, gT_9 t36, gT_10 t36, gT_11 t36, gT_12 t36, gT_13 t36, gT_14 t36, gT_15 t36, gT_16 t36, gT_17 t36, pT_10 t36, pT_11 t36, pT_12 t36, pT_13 t36, pT_14 t36, pT_15 t36, pT_16 t36, pT_17 t36, aT_1 t36, aT_2 t36, aT_3 t36, aT_4 t36, aT_5 t36, aT_6 t36, aT_7 t36, aT_8 t36, aT_9 t36, sT_1 t36, sT_2 t36, sT_3 t36, sT_4 t36, sT_5 t36, sT_6 t36, sT_7 t36, sT_8 t36, sT_9 t36, vT t36, e0, nI_leI, h1, a_69, q, q2, hle]
theorem k_off_l {sz n oz : Nat} {c : Nat → Int32} (hs : sz < 4) (hn : n ≤ 24) (hW : WFp A) (hX : WFx A) (ho : oz < tN A) : ∀ r iz (σ1 : Nat → Nat → Int32) (w5 : Option Value), iz + r = n → MR (σ1 94) (spDays iz A) → LB (σ1 106) A → σ1 98 sz = nI n → (∀ i, i < 24 → σ1 99 (24 * sz + i) = c i) →
    ∃ σ2, Rn E (d + 7) 196 9 [some (.ref 93), some (.int (nI sz)), some (.int (nI oz)), some (.int (dfS c A oz iz)), some (.int (nI iz)), w5] [] (shp, σ1) = some (some (.int (dfS c A oz n)), (shp, σ2)) ∧ Fr [94, 105, 108, 109] σ1 σ2 ∧ MR (σ2 94) A := by
  have h8 := hW.1
  intro r
  induction r with
  | zero =>
    intro iz σ1 w5 hi hM hB e2 ec
    have h1 : n ≤ iz := by omega
    have h2 : iz = n := by omega
    obtain ⟨o1, o2, o3, o4, o5⟩ := days_k (r := iz) hW
    obtain ⟨σ2, a1, a2, a3⟩ := k_back (E := E) (d := d + 6) hM o3 h8 hB
    refine ⟨σ2, ?_, a2.mono (by decide), a3⟩
    rw [e196_9]
    simp (disch := omega) only [e196_11, e196_12, e196_15, e196_16, e196_17, e196_69, e196_70, e196_73, e196_74, ↓reduceIte, gM_0, a_94, inb_n, ix_n, if_true, ne_eq, Nat.reduceEqDiff, not_false_eq_true, vM, clK_s, tl_s, tl_n, clr_i, clr_n, clr_a, nI_add, gM_5, a_98, e2, nI_leI, h1, a1]
    rw [h2]
  | succ r ih =>
    intro iz σ1 w5 hi hM hB e2 ec
    have h1 : ¬ n ≤ iz := by omega
    obtain ⟨o1, o2, o3, o4, o5⟩ := days_k (r := iz) hW
    have q := ec iz (by omega)
    have f2 : σ1 94 (10 + 5 * oz + 2) = tF (spDays iz A) oz 2 := hM.2.1 oz (by rw [o2]; exact ho) 2 (by omega)
    obtain ⟨σ2, a1, a2, a3⟩ := k_goesOn (E := E) (d := d) hM o1 (WFx_of o3 hX)
    rw [← spDays_s] at a3
    obtain ⟨σ3, g1, g2, g3⟩ := ih (iz + 1) σ2 (some (.int (c iz))) (by omega) a3 (by rw [a2 106 (by decide)]; exact hB) (by rw [a2 98 (by decide)]; exact e2) (fun i hi => by rw [a2 99 (by decide)]; exact ec i hi)
    refine ⟨σ3, ?_, a2.tr g2, g3⟩
    rw [← g1]
    conv => lhs; rw [e196_9]
    by_cases hz : c iz = (-1000000005)
    · rw [show dfS c A oz (iz + 1) = dfS c A oz iz + nI 0 from by rw [dfS, if_pos hz], hz]
      rw [hz] at q
      simp (disch := omega) only [e196_11, e196_12, e196_15, e196_16, e196_17, e196_20, e196_21, e196_24, e196_26, e196_27, e196_28, e196_30, e196_31, e196_32, e196_34, e196_35, e196_37, e196_39, e196_42, e196_43, e196_46, e196_48, e196_49, e196_50, e196_51, e196_54, e196_57, e196_58, e196_59, e196_60, e196_63, e196_66, ↓reduceIte, gM_0, a_94, inb_n, ix_n, if_true, ne_eq, Nat.reduceEqDiff, not_false_eq_true, vM, clK_s, tl_s, tl_n, clr_i, clr_n, clr_a, nI_add, gM_5, gM_6, a_98, a_99, e2, nI_leI, h1, pk_mul, q, not_true_eq_false, a1]
    · rw [show dfS c A oz (iz + 1) = dfS c A oz iz + ofB (c iz) (tF (spDays iz A) oz 2) from by rw [dfS, if_neg hz]]
      simp (disch := omega) only [e196_11, e196_12, e196_15, e196_16, e196_17, e196_20, e196_21, e196_24, e196_26, e196_27, e196_28, e196_30, e196_31, e196_32, e196_34, e196_35, e196_37, e196_39, e196_42, e196_43, e196_46, e196_48, e196_49, e196_50, e196_51, e196_54, e196_57, e196_58, e196_59, e196_60, e196_63, e196_66, ↓reduceIte, gM_0, a_94, inb_n, ix_n, if_true, ne_eq, Nat.reduceEqDiff, not_false_eq_true, vM, clK_s, tl_s, tl_n, clr_i, clr_n, clr_a, nI_add, gM_5, gM_6, a_98, a_99, e2, nI_leI, h1, pk_mul, q, hz, k_of, f2, k_off, a1]
theorem k_offBy {sz n oz : Nat} {c : Nat → Int32} (hs : sz < 4) (hn : n ≤ 24) (hW : WFp A) (hX : WFx A) (ho : oz < tN A) (hM : MR (σ 94) A) (e2 : σ 98 sz = nI n) (ec : ∀ i, i < 24 → σ 99 (24 * sz + i) = c i) :
    ∃ σ2, Rn E (d + 7) 196 0 [some (.ref 93), some (.int (nI sz)), some (.int (nI oz)), none, none, none] [] (shp, σ) = some (some (.int (dfS c A oz n)), (shp, σ2)) ∧ Fr [94, 105, 106, 108, 109] σ σ2 ∧ MR (σ2 94) A := by
  have h8 := hW.1
  obtain ⟨σ1, a1, a2, a3⟩ := k_by (E := E) (d := d + 6) hM h8
  have hM1 : MR (σ1 94) A := by rw [a2 94 (by decide)]; exact hM
  obtain ⟨σ2, g1, g2, g3⟩ := k_off_l (E := E) (d := d) (n := n) (c := c) hs hn hW hX ho n 0 σ1 none (by omega) hM1 a3 (by rw [a2 98 (by decide)]; exact e2) (fun i hi => by rw [a2 99 (by decide)]; exact ec i hi)
  refine ⟨σ2, ?_, (a2.mono (by decide)).tr (g2.mono (by decide)), g3⟩
  simp (disch := omega) only [e196_0, e196_1, e196_4, e196_5, e196_6, e196_7, ↓reduceIte, gM_0, a_94, inb_n, ix_n, if_true, ne_eq, Nat.reduceEqDiff, not_false_eq_true, vM, clK_s, tl_s, tl_n, clr_i, clr_n, clr_a, nI_add, a1]
  exact g1
theorem k_like_l {sz n : Nat} {c : Nat → Int32} {yv : Int32} (hs : sz < 4) (hn : n ≤ 24) (hW : WFp A) (hX : WFx A) : ∀ r kz b (σ1 : Nat → Nat → Int32) (w6 : Option Value), kz + r = tN A → b < tN A → MR (σ1 94) A → σ1 98 sz = nI n → (∀ i, i < 24 → σ1 99 (24 * sz + i) = c i) →
    ∃ σ2, Rn E (d + 8) 197 41 [some (.ref 93), some (.int (nI sz)), some (.int yv), some (.int (nI b)), some (.int (dfS c A b n)), some (.int (nI kz)), w6] [] (shp, σ1) = some (some (.int (if yv = nI 0 then nI (lbF (fun j => dfS c A j n) r kz b) else dfS c A (lbF (fun j => dfS c A j n) r kz b) n)), (shp, σ2)) ∧ Fr [94, 105, 106, 108, 109] σ1 σ2 ∧ MR (σ2 94) A := by
  have h8 := hW.1
  intro r
  induction r with
  | zero =>
    intro kz b σ1 w6 hk hb hM e2 ec
    have h1 : tN A ≤ kz := by omega
    have e0 := hM.1
    have hb0 : nI 0 ≤ nI b := nI_le (by omega) (by omega)
    refine ⟨σ1, ?_, Fr.rf, hM⟩
    rw [e197_41]
    simp (disch := omega) only [e197_43, e197_44, e197_47, e197_48, e197_49, e197_85, e197_86, e197_89, e197_91, e197_94, e197_95, e197_98, e197_99, e197_102, e197_104, ↓reduceIte, gM_0, a_94, inb_n, ix_n, if_true, ne_eq, Nat.reduceEqDiff, not_false_eq_true, vM, clK_s, tl_s, tl_n, clr_i, clr_n, clr_a, nI_add, e0, nI_leI, h1, hb0, lbF, Nat.zero_le]
    by_cases hy : yv = nI 0 <;> simp [hy]
  | succ r ih =>
    intro kz b σ1 w6 hk hb hM e2 ec
    have h1 : ¬ tN A ≤ kz := by omega
    have e0 := hM.1
    have hb0 : ¬ nI b < nI 0 := nI_nn (by omega)
    obtain ⟨σ2, a1, a2, a3⟩ := k_offBy (E := E) (d := d) (c := c) hs hn hW hX (show kz < tN A by omega) hM e2 ec
    have e2' : σ2 98 sz = nI n := by rw [a2 98 (by decide)]; exact e2
    have ec' : ∀ i, i < 24 → σ2 99 (24 * sz + i) = c i := fun i hi => by rw [a2 99 (by decide)]; exact ec i hi
    unfold lbF
    by_cases hlt : dfS c A kz n < dfS c A b n
    · have hle : ¬ dfS c A b n ≤ dfS c A kz n := Int32.not_le.mpr hlt
      obtain ⟨σ3, g1, g2, g3⟩ := ih (kz + 1) kz σ2 (some (.int (dfS c A kz n))) (by omega) (by omega) a3 e2' ec'
      refine ⟨σ3, ?_, a2.tr g2, g3⟩
      rw [if_pos hlt, ← g1]
      conv => lhs; rw [e197_41]
      simp (disch := omega) only [e197_43, e197_44, e197_47, e197_48, e197_49, e197_52, e197_53, e197_54, e197_56, e197_59, e197_61, e197_62, e197_65, e197_67, e197_69, e197_72, e197_74, e197_75, e197_77, e197_79, e197_82, ↓reduceIte, gM_0, a_94, inb_n, ix_n, if_true, ne_eq, Nat.reduceEqDiff, not_false_eq_true, vM, clK_s, tl_s, tl_n, clr_i, clr_n, clr_a, nI_add, e0, nI_leI, h1, a1, hb0, hle]
    · have hle : dfS c A b n ≤ dfS c A kz n := Int32.not_lt.mp hlt
      obtain ⟨σ3, g1, g2, g3⟩ := ih (kz + 1) b σ2 (some (.int (dfS c A kz n))) (by omega) hb a3 e2' ec'
      refine ⟨σ3, ?_, a2.tr g2, g3⟩
      rw [if_neg hlt, ← g1]
      conv => lhs; rw [e197_41]
      simp (disch := omega) only [e197_43, e197_44, e197_47, e197_48, e197_49, e197_52, e197_53, e197_54, e197_56, e197_59, e197_61, e197_62, e197_65, e197_67, e197_69, e197_72, e197_74, e197_75, e197_77, e197_79, e197_82, ↓reduceIte, gM_0, a_94, inb_n, ix_n, if_true, ne_eq, Nat.reduceEqDiff, not_false_eq_true, vM, clK_s, tl_s, tl_n, clr_i, clr_n, clr_a, nI_add, e0, nI_leI, h1, a1, hb0, hle]
theorem op_like {xv yv : Int32} (hI : INV σ A B im) : OK2 σ (Rn E (d + 50) 75 0 [some (.ref 0), some (.int xv), some (.int yv), none, none] []) (Rn E (d + 50) 197 0 [some (.ref 93), some (.int xv), some (.int yv), none, none, none, none] []) := by
  obtain ⟨⟨hC, hM, hW, hX, hc, hR⟩, _, hL⟩ := id hI
  have h8 := hW.1
  have hS := hL.1
  have e0 := hC.1
  cases hb : rg 0 3 xv with
  | false =>
    refine ok_read (vv := (-1000000001)) hI ?_ ?_
    · simp (disch := omega) only [e75_0, e75_1, e75_2, e75_3, e75_6, e75_9, e75_10, e75_11, e75_12, e75_15, e75_18, e75_20, ↓reduceIte, inb_n, ix_n, if_true, ne_eq, Nat.reduceEqDiff, not_false_eq_true, clK_s, tl_s, tl_n, clr_i, clr_n, clr_a, nI_add, c_isWithin, tI_0, tI_1, tI_2, tI_3, tI_4, tI_5, tI_6, tI_7, tI_8, tI_19, tI_20, tI_23, tI_24, tI_29, tI_30, tI_48, tI_50, tI_57, tI_60, tI_97, tI_100, tI_122, tI_200, tI_99999, tI_m1, tI_m99999, hb, bI_0, Bool.true_eq_false, Bool.false_eq_true, not_true_eq_false, not_false_eq_true, if_false, reduceCtorEq]
    · simp (disch := omega) only [e197_0, e197_1, e197_4, e197_7, e197_8, e197_9, e197_10, e197_11, e197_14, e197_17, e197_19, ↓reduceIte, gM_0, a_94, inb_n, ix_n, if_true, ne_eq, Nat.reduceEqDiff, not_false_eq_true, vM, clK_s, tl_s, tl_n, clr_i, clr_n, clr_a, nI_add, k_isSheet, hb, bI_0, Bool.true_eq_false, Bool.false_eq_true, not_true_eq_false, not_false_eq_true, if_false, reduceCtorEq]
  | true =>
  cases hb2 : rg 0 1 yv with
  | false =>
    refine ok_read (vv := (-1000000001)) hI ?_ ?_
    · simp (disch := omega) only [e75_0, e75_1, e75_2, e75_3, e75_6, e75_9, e75_10, e75_11, e75_12, e75_15, e75_18, e75_20, ↓reduceIte, inb_n, ix_n, if_true, ne_eq, Nat.reduceEqDiff, not_false_eq_true, clK_s, tl_s, tl_n, clr_i, clr_n, clr_a, nI_add, c_isWithin, tI_0, tI_1, tI_2, tI_3, tI_4, tI_5, tI_6, tI_7, tI_8, tI_19, tI_20, tI_23, tI_24, tI_29, tI_30, tI_48, tI_50, tI_57, tI_60, tI_97, tI_100, tI_122, tI_200, tI_99999, tI_m1, tI_m99999, hb, hb2, bI_0, Bool.true_eq_false, Bool.false_eq_true, not_true_eq_false, not_false_eq_true, if_false, reduceCtorEq]
    · simp (disch := omega) only [e197_0, e197_1, e197_4, e197_7, e197_8, e197_9, e197_10, e197_11, e197_14, e197_17, e197_19, ↓reduceIte, gM_0, a_94, inb_n, ix_n, if_true, ne_eq, Nat.reduceEqDiff, not_false_eq_true, vM, clK_s, tl_s, tl_n, clr_i, clr_n, clr_a, nI_add, k_isSheet, k_in, rgL_c, tL_0, tL_1, tL_2, tL_3, tL_4, tL_5, tL_6, tL_7, tL_8, tL_19, tL_30, tL_48, tL_50, tL_57, tL_60, tL_97, tL_100, tL_122, tL_200, tL_99999, tL_m1, tL_m99999, hb, hb2, bI_0, Bool.true_eq_false, Bool.false_eq_true, not_true_eq_false, not_false_eq_true, if_false, reduceCtorEq]
  | true =>
    obtain ⟨sz, hs, rfl⟩ := rg_e (n := 3) rfl hb
    have hs : sz < 4 := by omega
    obtain ⟨s1, s2, s3, ⟨n, hn, s4⟩, s5⟩ := hS sz hs
    obtain ⟨sn1, sn2⟩ := sort_neg s3
    have c2 : σ (70 + 2 * sz) 2 = nI n := by rw [s2, s4]
    by_cases hm : σ 97 sz = (-1)
    · have g2 : ¬ nI 0 ≤ σ 97 sz := fun z => sn2.mp z hm
      refine ok_read (vv := (-1000000011)) hI ?_ ?_
      · simp (disch := omega) only [e75_0, e75_1, e75_2, e75_3, e75_6, e75_9, e75_10, e75_11, e75_12, e75_15, e75_18, e75_20, e75_21, e75_22, e75_25, e75_26, e75_27, e75_30, e75_31, e75_34, e75_36, ↓reduceIte, inb_n, ix_n, if_true, ne_eq, Nat.reduceEqDiff, not_false_eq_true, clK_s, tl_s, tl_n, clr_i, clr_n, clr_a, nI_add, c_isWithin, tI_0, tI_1, tI_2, tI_3, tI_4, tI_5, tI_6, tI_7, tI_8, tI_19, tI_20, tI_23, tI_24, tI_29, tI_30, tI_48, tI_50, tI_57, tI_60, tI_97, tI_100, tI_122, tI_200, tI_99999, tI_m1, tI_m99999, hb, hb2, bI_0, Bool.true_eq_false, Bool.false_eq_true, not_true_eq_false, not_false_eq_true, if_false, reduceCtorEq, gX_5, q_66, gH_1 (isH_n hs), s1, hm]
      · simp (disch := omega) only [e197_0, e197_1, e197_4, e197_7, e197_8, e197_9, e197_10, e197_11, e197_14, e197_17, e197_19, e197_20, e197_21, e197_24, e197_25, e197_26, e197_29, e197_32, ↓reduceIte, gM_0, a_94, inb_n, ix_n, if_true, ne_eq, Nat.reduceEqDiff, not_false_eq_true, vM, clK_s, tl_s, tl_n, clr_i, clr_n, clr_a, nI_add, k_isSheet, k_in, rgL_c, tL_0, tL_1, tL_2, tL_3, tL_4, tL_5, tL_6, tL_7, tL_8, tL_19, tL_30, tL_48, tL_50, tL_57, tL_60, tL_97, tL_100, tL_122, tL_200, tL_99999, tL_m1, tL_m99999, hb, hb2, bI_0, Bool.true_eq_false, Bool.false_eq_true, not_true_eq_false, not_false_eq_true, if_false, reduceCtorEq, gM_4, a_97, g2]
    · have g2 : nI 0 ≤ σ 97 sz := sn2.mpr hm
      by_cases hn0 : tN A = 0
      · have m0 := hM.1
        rw [hn0] at e0 m0
        have z1 : ¬ nI 0 ≤ (-1 : Int32) := by decide +kernel
        refine ok_read (vv := (-1000000005)) hI ?_ ?_
        · simp (disch := omega) only [e75_0, e75_1, e75_2, e75_3, e75_6, e75_9, e75_10, e75_11, e75_12, e75_15, e75_18, e75_20, e75_21, e75_22, e75_25, e75_26, e75_27, e75_30, e75_31, e75_34, e75_36, e75_37, e75_38, e75_41, e75_44, e75_47, e75_49, ↓reduceIte, inb_n, ix_n, if_true, ne_eq, Nat.reduceEqDiff, not_false_eq_true, clK_s, tl_s, tl_n, clr_i, clr_n, clr_a, nI_add, c_isWithin, tI_0, tI_1, tI_2, tI_3, tI_4, tI_5, tI_6, tI_7, tI_8, tI_19, tI_20, tI_23, tI_24, tI_29, tI_30, tI_48, tI_50, tI_57, tI_60, tI_97, tI_100, tI_122, tI_200, tI_99999, tI_m1, tI_m99999, hb, hb2, bI_0, Bool.true_eq_false, Bool.false_eq_true, not_true_eq_false, not_false_eq_true, if_false, reduceCtorEq, gX_5, gX_2, gT_0 t36, gT_1 t36, gT_2 t36, gT_3 t36, gT_4 t36, gT_5 t36, gT_6 t36, gT_7 t36, gT_8 t36, gT_9 t36, gT_10 t36, gT_11 t36, gT_12 t36, gT_13 t36, gT_14 t36, gT_15 t36, gT_16 t36, gT_17 t36, pT_10 t36, pT_11 t36, pT_12 t36, pT_13 t36, pT_14 t36, pT_15 t36, pT_16 t36, pT_17 t36, aT_1 t36, aT_2 t36, aT_3 t36, aT_4 t36, aT_5 t36, aT_6 t36, aT_7 t36, aT_8 t36, aT_9 t36, sT_1 t36, sT_2 t36, sT_3 t36, sT_4 t36, sT_5 t36, sT_6 t36, sT_7 t36, sT_8 t36, sT_9 t36, vT t36, q_66, gH_1 (isH_n hs), s1, hm, e0]
        · simp (disch := omega) only [e197_0, e197_1, e197_4, e197_7, e197_8, e197_9, e197_10, e197_11, e197_14, e197_17, e197_19, e197_20, e197_21, e197_24, e197_25, e197_26, e197_29, e197_32, e197_33, e197_34, e197_35, e197_36, e197_38, e197_39, e197_41, e197_43, e197_44, e197_47, e197_48, e197_49, e197_85, e197_86, e197_89, e197_91, e197_94, e197_95, e197_98, e197_99, e197_102, e197_104, ↓reduceIte, gM_0, a_94, inb_n, ix_n, if_true, ne_eq, Nat.reduceEqDiff, not_false_eq_true, vM, clK_s, tl_s, tl_n, clr_i, clr_n, clr_a, nI_add, k_isSheet, k_in, rgL_c, tL_0, tL_1, tL_2, tL_3, tL_4, tL_5, tL_6, tL_7, tL_8, tL_19, tL_30, tL_48, tL_50, tL_57, tL_60, tL_97, tL_100, tL_122, tL_200, tL_99999, tL_m1, tL_m99999, hb, hb2, bI_0, Bool.true_eq_false, Bool.false_eq_true, not_true_eq_false, not_false_eq_true, if_false, reduceCtorEq, gM_4, a_97, g2, m0, nI_leI, Nat.le_refl, z1]
      · have hn1 : ¬ nI (tN A) = nI 0 := fun z => hn0 ((nI_eq (by omega) (by omega)).mp z)
        obtain ⟨σ1, a1, a2, a3⟩ := c_addDiff (E := E) (d := d + 43) (c := fun i => σ 99 (24 * sz + i)) hs hn hW hX (fun i hi => (s5 i hi).2) hC hR c2 (fun i hi => (s5 i hi).1)
        have e0' : σ1 36 10 = nI (tN A) := by rw [a2 36 (by omega) (by omega) (by omega)]; exact e0
        have e97 : σ1 97 = σ 97 := a2 97 (by omega) (by omega) (by omega)
        have hM1 : MR (σ1 94) A := by rw [a2 94 (by omega) (by omega) (by omega)]; exact hM
        have e98 : σ1 98 sz = nI n := by rw [a2 98 (by omega) (by omega) (by omega)]; exact s4
        have e99 : ∀ i, i < 24 → σ1 99 (24 * sz + i) = σ 99 (24 * sz + i) := fun i hi => by rw [a2 99 (by omega) (by omega) (by omega)]
        have g2' : nI 0 ≤ σ1 97 sz := by rw [e97]; exact g2
        obtain ⟨σ2, b1, b2, b3⟩ := k_offBy (E := E) (d := d + 42) (c := fun i => σ 99 (24 * sz + i)) hs hn hW hX (show 0 < tN A by omega) hM1 e98 e99
        obtain ⟨σ3, f1, f2, f3⟩ := k_like_l (E := E) (d := d + 42) (yv := yv) (c := fun i => σ 99 (24 * sz + i)) hs hn hW hX (tN A - 1) 1 0 σ2 (some (.int (dfS (fun i => σ 99 (24 * sz + i)) A 0 n))) (by omega) (by omega) b3 (by rw [b2 98 (by decide)]; exact e98) (fun i hi => by rw [b2 99 (by decide)]; exact e99 i hi)
        have fr : Fr [94, 96, 105, 106, 108, 109, 110, 112] σ1 σ3 := (b2.mono (by decide)).tr (f2.mono (by decide))
        have qt : QT σ σ1 := fun a ha => a2 a (by omega) (by omega) (by omega)
        have m0 := hM1.1
        have h0n : ¬ tN A ≤ 0 := by omega
        have zm : (-1 : Int32) < nI 0 := by decide +kernel
        refine ⟨if yv = nI 0 then nI (lbF (fun j => dfS (fun i => σ 99 (24 * sz + i)) A j n) (tN A - 1) 1 0) else dfS (fun i => σ 99 (24 * sz + i)) A (lbF (fun j => dfS (fun i => σ 99 (24 * sz + i)) A j n) (tN A - 1) 1 0) n, σ1, σ3, A, B, im, ?_, ?_, hI.same (qt.tr (QT.fr fr)) ((hC.ext (fun a x1 x2 _ => a2 a (by omega) (by omega) (by omega))).ext (fun a x1 x2 _ => fr a (by simp; omega))) f3⟩
        · simp (disch := omega) only [e75_0, e75_1, e75_2, e75_3, e75_6, e75_9, e75_10, e75_11, e75_12, e75_15, e75_18, e75_20, e75_21, e75_22, e75_25, e75_26, e75_27, e75_30, e75_31, e75_34, e75_36, e75_37, e75_38, e75_41, e75_44, e75_47, e75_49, e75_50, e75_51, e75_52, e75_55, e75_56, e75_57, e75_60, e75_61, e75_62, e75_63, ↓reduceIte, inb_n, ix_n, if_true, ne_eq, Nat.reduceEqDiff, not_false_eq_true, clK_s, tl_s, tl_n, clr_i, clr_n, clr_a, nI_add, c_isWithin, tI_0, tI_1, tI_2, tI_3, tI_4, tI_5, tI_6, tI_7, tI_8, tI_19, tI_20, tI_23, tI_24, tI_29, tI_30, tI_48, tI_50, tI_57, tI_60, tI_97, tI_100, tI_122, tI_200, tI_99999, tI_m1, tI_m99999, hb, hb2, bI_0, Bool.true_eq_false, Bool.false_eq_true, not_true_eq_false, not_false_eq_true, if_false, reduceCtorEq, gX_5, gX_2, gT_0 t36, gT_1 t36, gT_2 t36, gT_3 t36, gT_4 t36, gT_5 t36, gT_6 t36, gT_7 t36, gT_8 t36, gT_9 t36, gT_10 t36, gT_11 t36, gT_12 t36, gT_13 t36, gT_14 t36, gT_15 t36, gT_16 t36, gT_17 t36, pT_10 t36, pT_11 t36, pT_12 t36, pT_13 t36, pT_14 t36, pT_15 t36, pT_16 t36, pT_17 t36, aT_1 t36, aT_2 t36, aT_3 t36, aT_4 t36, aT_5 t36, aT_6 t36, aT_7 t36, aT_8 t36, aT_9 t36, sT_1 t36, sT_2 t36, sT_3 t36, sT_4 t36, sT_5 t36, sT_6 t36, sT_7 t36, sT_8 t36, sT_9 t36, vT t36, q_66, gH_1 (isH_n hs), s1, hm, e0, hn1, vX, a1]
          exact c_like_l h8 e0' a3 (tN A - 1) 1 0 (by omega) (by omega)
        · simp (disch := omega) only [e197_0, e197_1, e197_4, e197_7, e197_8, e197_9, e197_10, e197_11, e197_14, e197_17, e197_19, e197_20, e197_21, e197_24, e197_25, e197_26, e197_29, e197_32, e197_33, e197_34, e197_35, e197_36, e197_38, e197_39, ↓reduceIte, gM_0, a_94, inb_n, ix_n, if_true, ne_eq, Nat.reduceEqDiff, not_false_eq_true, vM, clK_s, tl_s, tl_n, clr_i, clr_n, clr_a, nI_add, k_isSheet, k_in, rgL_c, tL_0, tL_1, tL_2, tL_3, tL_4, tL_5, tL_6, tL_7, tL_8, tL_19, tL_30, tL_48, tL_50, tL_57, tL_60, tL_97, tL_100, tL_122, tL_200, tL_99999, tL_m1, tL_m99999, hb, hb2, bI_0, Bool.true_eq_false, Bool.false_eq_true, not_true_eq_false, not_false_eq_true, if_false, reduceCtorEq, gM_4, a_97, g2']
          rw [e197_41]
          simp (disch := omega) only [e197_43, e197_44, e197_47, e197_48, e197_49, e197_52, e197_53, e197_54, e197_56, e197_59, e197_61, e197_62, e197_65, e197_67, e197_69, e197_72, e197_74, e197_75, e197_77, e197_79, e197_82, ↓reduceIte, gM_0, a_94, inb_n, ix_n, if_true, ne_eq, Nat.reduceEqDiff, not_false_eq_true, vM, clK_s, tl_s, tl_n, clr_i, clr_n, clr_a, nI_add, m0, nI_leI, h0n, b1, zm]
          exact f1
end Like
