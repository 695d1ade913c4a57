/-! SOMEBODY COMES, DEALING -/
def sel5 (v0 v1 v2 v3 v4 : Int32) (b : Nat) : Int32 := if b = 0 then v0 else if b = 1 then v1 else if b = 2 then v2 else if b = 3 then v3 else v4
def tnP (A : Tn) (v0 v1 v2 v3 v4 : Int32) : Tn := (tN A + 1, fun a b => if a = tN A then sel5 v0 v1 v2 v3 v4 b else tF A a b, tC A, tX A)
theorem MR_p {s t : Nat → Int32} {A : Tn} {v0 v1 v2 v3 v4 : Int32} (h : MR s A) (h8 : tN A < 8) (h0 : t 0 = nI (tN A + 1)) (hn : ∀ j, j < 5 → t (10 + 5 * tN A + j) = sel5 v0 v1 v2 v3 v4 j) (ho : ∀ i, i ≠ 0 → (i < 10 + 5 * tN A ∨ 15 + 5 * tN A ≤ i) → t i = s i) : MR t (tnP A v0 v1 v2 v3 v4) := by
  obtain ⟨a1, a2, a3, a4, a5, a6⟩ := h
  refine ⟨h0, ?_, ?_, ?_, ?_, ?_⟩
  · intro kz hk j hj
    have hk : kz < tN A + 1 := hk
    show _ = if kz = tN A then sel5 v0 v1 v2 v3 v4 j else tF A kz j
    by_cases hq : kz = tN A
    · rw [if_pos hq, hq]; exact hn j hj
    · rw [if_neg hq, ho _ (by omega) (by omega)]; exact a2 kz (by omega) j hj
  · intro i hi hj
    rw [ho _ (by omega) (by omega)]; exact a3 i hi hj
  · rw [ho _ (by omega) (by omega)]; exact a4
  · rw [ho _ (by omega) (by omega)]; exact a5
  · intro t1 tx ht
    obtain ⟨b1, b2, b3, b4⟩ := a6 t1 tx ht
    refine ⟨by rw [ho _ (by omega) (by omega)]; exact b1, by rw [ho _ (by omega) (by omega)]; exact b2, by rw [ho _ (by omega) (by omega)]; exact b3, fun i w xv hg => ?_⟩
    rw [ho _ (by omega) (by omega), ho _ (by omega) (by omega)]
    exact b4 i w xv hg
theorem whF_app {f : Nat → Nat → Int32} {pv : Int32} : ∀ r kz, whF f pv (r + 1) kz = match whF f pv r kz with
    | some jz => some jz
    | none => if f (kz + r) 1 = pv then some (kz + r) else none := by
  intro r
  induction r with
  | zero => intro kz; rfl
  | succ r ih =>
    intro kz
    rw [whF, ih (kz + 1), show kz + 1 + r = kz + (r + 1) by omega]
    show _ = match (if f kz 1 = pv then some kz else whF f pv r (kz + 1)) with
      | some jz => some jz
      | none => if f (kz + (r + 1)) 1 = pv then some (kz + (r + 1)) else none
    by_cases h : f kz 1 = pv
    · rw [if_pos h, if_pos h]
    · rw [if_neg h, if_neg h]
theorem spW_p {A : Tn} {v0 v1 v2 v3 v4 qv : Int32} : spW (tnP A v0 v1 v2 v3 v4) qv = match spW A qv with
    | some jz => some jz
    | none => if v1 = qv then some (tN A) else none := by
  show whF (tF (tnP A v0 v1 v2 v3 v4)) qv (tN A + 1) 0 = _
  rw [whF_app]
  have e : whF (tF (tnP A v0 v1 v2 v3 v4)) qv (tN A) 0 = spW A qv := whF_c _ _ (fun a _ ha => by
    show (if a = tN A then sel5 v0 v1 v2 v3 v4 1 else tF A a 1) = qv ↔ _
    rw [if_neg (by omega)])
  rw [e, Nat.zero_add]
  have e2 : tF (tnP A v0 v1 v2 v3 v4) (tN A) 1 = v1 := by
    show (if tN A = tN A then sel5 v0 v1 v2 v3 v4 1 else tF A (tN A) 1) = v1
    rw [if_pos rfl]; rfl
  rw [e2]
theorem CR_p {σ ρ : Nat → Nat → Int32} {h pz : Nat} {A : Tn} {v0 v2 v3 v4 : Int32} (hC : CR σ h A) (h8 : tN A < 8) (hp : pz < 20) (hf : spW A (nI pz) = none) (h0 : ρ h 10 = nI (tN A + 1)) (hn : ∀ j, j < 5 → ρ (h + 1 + j) (tN A) = sel5 v0 (nI pz) v2 v3 v4 j) (ho : ∀ j, j < 5 → ∀ k, k < tN A → ρ (h + 1 + j) k = σ (h + 1 + j) k) (hw : ρ (h + 7) = upd (σ (h + 7)) pz (nI (tN A))) (h88 : ρ (h + 8) = σ (h + 8)) (h99 : ρ (h + 9) = σ (h + 9)) (hh : ∀ i, i ≠ 10 → ρ h i = σ h i) : CR ρ h (tnP A v0 (nI pz) v2 v3 v4) := by
  obtain ⟨c1, c2, c3, c4, c5, ⟨d1, d2, d3, d4, d5, d6⟩, c7⟩ := hC
  refine ⟨h0, ?_, ?_, by rw [h88]; exact c4, by rw [h99]; exact c5, ⟨by rw [hh _ (by omega)]; exact d1, by rw [hh _ (by omega)]; exact d2, by rw [hh _ (by omega)]; exact d3, by rw [hh _ (by omega)]; exact d4, by rw [hh _ (by omega)]; exact d5, by rw [hh _ (by omega)]; exact d6⟩, by rw [hh _ (by omega)]; exact c7⟩
  · intro kz hk j hj
    have hk : kz < tN A + 1 := hk
    show _ = if kz = tN A then sel5 v0 (nI pz) v2 v3 v4 j else tF A kz j
    by_cases hq : kz = tN A
    · rw [if_pos hq, hq]; exact hn j hj
    · rw [if_neg hq, ho j hj kz (by omega)]; exact c2 kz (by omega) j hj
  · intro q hq
    rw [hw, spW_p]
    by_cases h1 : q = pz
    · rw [h1, pk_us, hf]
      simp only [if_true]
      rfl
    · rw [pk_un h1, c3 q hq]
      have h2 : ¬ nI pz = nI q := fun z => h1 ((nI_eq (by omega) (by omega)).mp z).symm
      cases spW A (nI q) with
      | some jz => rfl
      | none => simp only [h2, if_false]
theorem WFp_p {A : Tn} {cz pz : Nat} {v2 v3 v4 : Int32} (hW : WFp A) (h8 : tN A < 8) (hc : cz < 6) (hp : pz < 20) (hf : spFr A (nI pz) = true) (h2 : rg 0 200 v2 = true) (h3 : rg 0 50 v3 = true) (h4 : rg (-1) 7 v4 = true) : WFp (tnP A (nI cz) (nI pz) v2 v3 v4) := by
  obtain ⟨g1, g2, g3, g4⟩ := hW
  obtain ⟨f1, f2⟩ := spFr_iff.mp hf
  have hn := spW_none f1
  have hq : ∀ a b, tF (tnP A (nI cz) (nI pz) v2 v3 v4) a b = if a = tN A then sel5 (nI cz) (nI pz) v2 v3 v4 b else tF A a b := fun _ _ => rfl
  have h1 : tN (tnP A (nI cz) (nI pz) v2 v3 v4) = tN A + 1 := rfl
  have hcc : tC (tnP A (nI cz) (nI pz) v2 v3 v4) = tC A := rfl
  have e1 : sel5 (nI cz) (nI pz) v2 v3 v4 1 = nI pz := rfl
  unfold WFp
  rw [h1, hcc]
  refine ⟨by omega, ?_, ?_, ?_⟩
  · intro a ha
    rw [hq, hq, hq, hq, hq]
    by_cases h : a = tN A
    · rw [if_pos h, if_pos h, if_pos h, if_pos h, if_pos h]
      exact ⟨⟨pz, hp, rfl⟩, ⟨cz, hc, rfl⟩, h2, h3, h4⟩
    · rw [if_neg h, if_neg h, if_neg h, if_neg h, if_neg h]
      exact g2 a (by omega)
  · intro i j hi hj
    rw [hq, hq, e1]
    by_cases h : i = tN A
    · by_cases h' : j = tN A
      · intro _; omega
      · rw [if_pos h, if_neg h']
        intro z
        exact absurd z.symm (hn j (by omega))
    · by_cases h' : j = tN A
      · rw [if_neg h, if_pos h']
        intro z
        exact absurd z (hn i (by omega))
      · rw [if_neg h, if_neg h']
        exact g3 i j (by omega) (by omega)
  · intro a ha
    rw [hq, e1]
    by_cases h : a = tN A
    · rw [if_pos h]; exact f2
    · rw [if_neg h]; exact g4 a (by omega)
section Deal
variable {E : aE} {d h : Nat} {S : aSt} {σ : Nat → Nat → Int32} {A B : Tn} {im : Bool}
theorem k_comes {v0 v1 v2 v3 v4 : Int32} (hM : MR (σ 94) A) (h8 : tN A < 8) : ∃ σ2, Rn E (d + 1) 123 0 [some (.ref 93), some (.int v0), some (.int v1), some (.int v2), some (.int v3), some (.int v4), none] [] (shp, σ) = some (none, (shp, σ2)) ∧ Fr [94] σ σ2 ∧ MR (σ2 94) (tnP A v0 v1 v2 v3 v4) := by
  have e0 := hM.1
  simp (disch := omega) only [e123_0, e123_1, e123_4, e123_5, e123_6, e123_8, e123_9, e123_12, e123_13, e123_14, e123_15, e123_16, e123_17, e123_18, e123_19, e123_21, e123_22, e123_23, e123_26, e123_27, e123_29, e123_30, e123_31, e123_34, e123_35, e123_37, e123_38, e123_39, e123_42, e123_43, e123_45, e123_46, e123_48, e123_51, e123_52, e123_54, e123_55, e123_57, e123_60, ↓reduceIte, gM_0, a_94, inb_n, ix_n, if_true, ne_eq, Nat.reduceEqDiff, not_false_eq_true, vM, clK_s, tl_s, tl_n, clr_i, clr_n, clr_a, nI_add, e0, s_94, k_sets]
  refine ⟨_, rfl, (((((Fr.rf.su (by decide)).su (by decide)).su (by decide)).su (by decide)).su (by decide)).su (by decide), MR_p hM h8 ?_ ?_ ?_⟩
  · simp (disch := omega) only [su_rf, pk_un, pk_us]
  · intro j hj
    match j, hj with
    | 0, _ => simp (disch := omega) only [su_rf, pk_un, pk_us]; rfl
    | 1, _ => simp (disch := omega) only [su_rf, pk_un, pk_us]; rfl
    | 2, _ => simp (disch := omega) only [su_rf, pk_un, pk_us]; rfl
    | 3, _ => simp (disch := omega) only [su_rf, pk_un, pk_us]; rfl
    | 4, _ => simp (disch := omega) only [su_rf, pk_un, pk_us]; rfl
  · intro i h1 h2
    simp (disch := omega) only [su_rf, pk_un]
theorem c_comes {pz : Nat} {v0 v2 v3 v4 : Int32} (hT : isT h) (hC : CR σ h A) (h8 : tN A < 8) (hp : pz < 20) (hf : spW A (nI pz) = none) : ∃ σ2, Rn E d 33 0 [some (.ref h), some (.int v0), some (.int (nI pz)), some (.int v2), some (.int v3), some (.int v4), none] [] (shp, σ) = some (some (.int (nI (tN A))), (shp, σ2)) ∧ FT h σ σ2 ∧ CR σ2 h (tnP A v0 (nI pz) v2 v3 v4) := by
  have hT2 : h = 36 ∨ h = 46 ∨ h = 56 := hT
  have e0 := hC.1
  simp (disch := omega) only [e33_0, e33_1, e33_4, e33_6, e33_7, e33_10, e33_12, e33_13, e33_14, e33_15, e33_18, e33_20, e33_21, e33_22, e33_23, e33_26, e33_28, e33_29, e33_30, e33_31, e33_34, e33_36, e33_38, e33_39, e33_40, e33_43, e33_45, e33_47, e33_48, e33_49, e33_52, e33_53, e33_55, e33_56, e33_57, e33_59, e33_60, e33_61, e33_64, e33_66, gT_0 hT, gT_1 hT, gT_2 hT, gT_3 hT, gT_4 hT, gT_5 hT, gT_6 hT, gT_7 hT, gT_8 hT, gT_9 hT, gT_10 hT, gT_11 hT, gT_12 hT, gT_13 hT, gT_14 hT, gT_15 hT, gT_16 hT, gT_17 hT, pT_10 hT, pT_11 hT, pT_12 hT, pT_13 hT, pT_14 hT, pT_15 hT, pT_16 hT, pT_17 hT, aT_1 hT, aT_2 hT, aT_3 hT, aT_4 hT, aT_5 hT, aT_6 hT, aT_7 hT, aT_8 hT, aT_9 hT, sT_1 hT, sT_2 hT, sT_3 hT, sT_4 hT, sT_5 hT, sT_6 hT, sT_7 hT, sT_8 hT, sT_9 hT, vT hT, ↓reduceIte, inb_n, ix_n, if_true, ne_eq, Nat.reduceEqDiff, not_false_eq_true, clK_s, tl_s, tl_n, clr_i, clr_n, clr_a, nI_add, e0]
  refine ⟨_, rfl, ((((((FT.rf.pu (by omega) (by omega)).pu (by omega) (by omega)).pu (by omega) (by omega)).pu (by omega) (by omega)).pu (by omega) (by omega)).pu (by omega) (by omega)).pu (by omega) (by omega), CR_p hC h8 hp hf ?_ ?_ ?_ ?_ ?_ ?_ ?_⟩
  · simp (disch := omega) only [su_rf, pk_us]
  · intro j hj
    match j, hj with
    | 0, _ => show su _ _ _ _ (h + 1) _ = _; simp (disch := omega) only [su_row, su_rf, pk_us]; rfl
    | 1, _ => show su _ _ _ _ (h + 2) _ = _; simp (disch := omega) only [su_row, su_rf, pk_us]; rfl
    | 2, _ => show su _ _ _ _ (h + 3) _ = _; simp (disch := omega) only [su_row, su_rf, pk_us]; rfl
    | 3, _ => show su _ _ _ _ (h + 4) _ = _; simp (disch := omega) only [su_row, su_rf, pk_us]; rfl
    | 4, _ => show su _ _ _ _ (h + 5) _ = _; simp (disch := omega) only [su_row, su_rf, pk_us]; rfl
  · intro j hj k hk
    match j, hj with
    | 0, _ => show su _ _ _ _ (h + 1) _ = σ (h + 1) k; simp (disch := omega) only [su_row, su_rf, pk_un]
    | 1, _ => show su _ _ _ _ (h + 2) _ = σ (h + 2) k; simp (disch := omega) only [su_row, su_rf, pk_un]
    | 2, _ => show su _ _ _ _ (h + 3) _ = σ (h + 3) k; simp (disch := omega) only [su_row, su_rf, pk_un]
    | 3, _ => show su _ _ _ _ (h + 4) _ = σ (h + 4) k; simp (disch := omega) only [su_row, su_rf, pk_un]
    | 4, _ => show su _ _ _ _ (h + 5) _ = σ (h + 5) k; simp (disch := omega) only [su_row, su_rf, pk_un]
  · simp (disch := omega) only [su_row, su_rf]
  · simp (disch := omega) only [su_row]
  · simp (disch := omega) only [su_row]
  · intro i hi
    simp (disch := omega) only [su_row, su_rf, pk_un]
theorem op_one {v0 v1 v2 v3 v4 : Int32} (hI : INV σ A B im) : OK2 σ (Rn E (d + 50) 51 0 [some (.ref 0), some (.int v0), some (.int v1), some (.int v2), some (.int v3), some (.int v4), none] []) (Rn E (d + 50) 125 0 [some (.ref 93), some (.int v0), some (.int v1), some (.int v2), some (.int v3), some (.int v4)] []) := by
  obtain ⟨⟨hC, hM, hW, hX, hc, hR⟩, _⟩ := id hI
  have h8 := hW.1
  cases g0 : rg 0 5 v0 with
  | false =>
    refine ok_read (vv := (-1000000001)) hI ?_ ?_
    · simp (disch := omega) only [e51_0, e51_1, e51_2, e51_3, e51_6, e51_9, e51_10, e51_11, e51_13, e51_16, e51_19, e51_20, e51_23, e51_24, e51_26, e51_28, e51_31, e51_32, e51_33, e51_36, e51_39, e51_40, e51_42, e51_45, e51_48, e51_49, e51_51, e51_54, e51_57, e51_59, e51_60, e51_61, e51_64, e51_65, e51_68, e51_71, e51_73, e51_74, e51_75, e51_78, e51_81, e51_83, e51_86, e51_88, e51_89, e51_90, e51_93, e51_94, e51_95, e51_96, e51_98, e51_100, e51_103, ↓reduceIte, inb_n, ix_n, if_true, ne_eq, Nat.reduceEqDiff, not_false_eq_true, clK_s, tl_s, tl_n, clr_i, clr_n, clr_a, nI_add, c_isWithin, tI_0, tI_1, tI_2, tI_3, tI_4, tI_5, tI_6, tI_7, tI_8, tI_19, tI_20, tI_23, tI_24, tI_29, tI_30, tI_48, tI_50, tI_57, tI_60, tI_97, tI_100, tI_122, tI_200, tI_99999, tI_m1, tI_m99999, g0, bI_0, Bool.true_eq_false, Bool.false_eq_true, not_true_eq_false, not_false_eq_true, if_false, reduceCtorEq]
    · simp (disch := omega) only [e125_0, e125_1, e125_2, e125_3, e125_6, e125_9, e125_12, e125_13, e125_16, e125_19, e125_20, e125_22, e125_24, e125_27, e125_30, e125_32, e125_33, e125_34, e125_35, e125_38, e125_41, e125_43, e125_44, e125_45, e125_48, e125_49, e125_50, e125_52, e125_55, e125_57, e125_58, e125_59, e125_60, e125_61, e125_62, e125_64, e125_66, e125_69, e125_70, e125_73, e125_74, e125_75, e125_76, e125_77, ↓reduceIte, gM_0, a_94, inb_n, ix_n, if_true, ne_eq, Nat.reduceEqDiff, not_false_eq_true, vM, clK_s, tl_s, tl_n, clr_i, clr_n, clr_a, nI_add, k_in, rgL_c, tL_0, tL_1, tL_2, tL_3, tL_4, tL_5, tL_6, tL_7, tL_8, tL_19, tL_30, tL_48, tL_50, tL_57, tL_60, tL_97, tL_100, tL_122, tL_200, tL_99999, tL_m1, tL_m99999, g0, bI_0, Bool.true_eq_false, Bool.false_eq_true, not_true_eq_false, not_false_eq_true, if_false, reduceCtorEq]
  | true =>
  cases g1 : rg 0 19 v1 with
  | false =>
    refine ok_read (vv := (-1000000001)) hI ?_ ?_
    · simp (disch := omega) only [e51_0, e51_1, e51_2, e51_3, e51_6, e51_9, e51_10, e51_11, e51_13, e51_16, e51_19, e51_20, e51_23, e51_24, e51_26, e51_28, e51_31, e51_32, e51_33, e51_36, e51_39, e51_40, e51_42, e51_45, e51_48, e51_49, e51_51, e51_54, e51_57, e51_59, e51_60, e51_61, e51_64, e51_65, e51_68, e51_71, e51_73, e51_74, e51_75, e51_78, e51_81, e51_83, e51_86, e51_88, e51_89, e51_90, e51_93, e51_94, e51_95, e51_96, e51_98, e51_100, e51_103, ↓reduceIte, inb_n, ix_n, if_true, ne_eq, Nat.reduceEqDiff, not_false_eq_true, clK_s, tl_s, tl_n, clr_i, clr_n, clr_a, nI_add, c_isWithin, tI_0, tI_1, tI_2, tI_3, tI_4, tI_5, tI_6, tI_7, tI_8, tI_19, tI_20, tI_23, tI_24, tI_29, tI_30, tI_48, tI_50, tI_57, tI_60, tI_97, tI_100, tI_122, tI_200, tI_99999, tI_m1, tI_m99999, g0, g1, bI_0, Bool.true_eq_false, Bool.false_eq_true, not_true_eq_false, not_false_eq_true, if_false, reduceCtorEq]
    · simp (disch := omega) only [e125_0, e125_1, e125_2, e125_3, e125_6, e125_9, e125_12, e125_13, e125_16, e125_19, e125_20, e125_22, e125_24, e125_27, e125_30, e125_32, e125_33, e125_34, e125_35, e125_38, e125_41, e125_43, e125_44, e125_45, e125_48, e125_49, e125_50, e125_52, e125_55, e125_57, e125_58, e125_59, e125_60, e125_61, e125_62, e125_64, e125_66, e125_69, e125_70, e125_73, e125_74, e125_75, e125_76, e125_77, ↓reduceIte, gM_0, a_94, inb_n, ix_n, if_true, ne_eq, Nat.reduceEqDiff, not_false_eq_true, vM, clK_s, tl_s, tl_n, clr_i, clr_n, clr_a, nI_add, k_in, rgL_c, tL_0, tL_1, tL_2, tL_3, tL_4, tL_5, tL_6, tL_7, tL_8, tL_19, tL_30, tL_48, tL_50, tL_57, tL_60, tL_97, tL_100, tL_122, tL_200, tL_99999, tL_m1, tL_m99999, k_isPlace, g0, g1, bI_0, Bool.true_eq_false, Bool.false_eq_true, not_true_eq_false, not_false_eq_true, if_false, reduceCtorEq]
  | true =>
  cases g2 : rg 0 200 v2 with
  | false =>
    refine ok_read (vv := (-1000000001)) hI ?_ ?_
    · simp (disch := omega) only [e51_0, e51_1, e51_2, e51_3, e51_6, e51_9, e51_10, e51_11, e51_13, e51_16, e51_19, e51_20, e51_23, e51_24, e51_26, e51_28, e51_31, e51_32, e51_33, e51_36, e51_39, e51_40, e51_42, e51_45, e51_48, e51_49, e51_51, e51_54, e51_57, e51_59, e51_60, e51_61, e51_64, e51_65, e51_68, e51_71, e51_73, e51_74, e51_75, e51_78, e51_81, e51_83, e51_86, e51_88, e51_89, e51_90, e51_93, e51_94, e51_95, e51_96, e51_98, e51_100, e51_103, ↓reduceIte, inb_n, ix_n, if_true, ne_eq, Nat.reduceEqDiff, not_false_eq_true, clK_s, tl_s, tl_n, clr_i, clr_n, clr_a, nI_add, c_isWithin, tI_0, tI_1, tI_2, tI_3, tI_4, tI_5, tI_6, tI_7, tI_8, tI_19, tI_20, tI_23, tI_24, tI_29, tI_30, tI_48, tI_50, tI_57, tI_60, tI_97, tI_100, tI_122, tI_200, tI_99999, tI_m1, tI_m99999, g0, g1, c_isValue2, g2, bI_0, Bool.true_eq_false, Bool.false_eq_true, not_true_eq_false, not_false_eq_true, if_false, reduceCtorEq, n10]
    · simp (disch := omega) only [e125_0, e125_1, e125_2, e125_3, e125_6, e125_9, e125_12, e125_13, e125_16, e125_19, e125_20, e125_22, e125_24, e125_27, e125_30, e125_32, e125_33, e125_34, e125_35, e125_38, e125_41, e125_43, e125_44, e125_45, e125_48, e125_49, e125_50, e125_52, e125_55, e125_57, e125_58, e125_59, e125_60, e125_61, e125_62, e125_64, e125_66, e125_69, e125_70, e125_73, e125_74, e125_75, e125_76, e125_77, ↓reduceIte, gM_0, a_94, inb_n, ix_n, if_true, ne_eq, Nat.reduceEqDiff, not_false_eq_true, vM, clK_s, tl_s, tl_n, clr_i, clr_n, clr_a, nI_add, k_in, rgL_c, tL_0, tL_1, tL_2, tL_3, tL_4, tL_5, tL_6, tL_7, tL_8, tL_19, tL_30, tL_48, tL_50, tL_57, tL_60, tL_97, tL_100, tL_122, tL_200, tL_99999, tL_m1, tL_m99999, k_isPlace, k_isOneSo, g0, g1, g2, Bool.false_and, bI_0, Bool.true_eq_false, Bool.false_eq_true, not_true_eq_false, not_false_eq_true, if_false, reduceCtorEq]
  | true =>
  cases g3 : rg 0 50 v3 with
  | false =>
    refine ok_read (vv := (-1000000001)) hI ?_ ?_
    · simp (disch := omega) only [e51_0, e51_1, e51_2, e51_3, e51_6, e51_9, e51_10, e51_11, e51_13, e51_16, e51_19, e51_20, e51_23, e51_24, e51_26, e51_28, e51_31, e51_32, e51_33, e51_36, e51_39, e51_40, e51_42, e51_45, e51_48, e51_49, e51_51, e51_54, e51_57, e51_59, e51_60, e51_61, e51_64, e51_65, e51_68, e51_71, e51_73, e51_74, e51_75, e51_78, e51_81, e51_83, e51_86, e51_88, e51_89, e51_90, e51_93, e51_94, e51_95, e51_96, e51_98, e51_100, e51_103, ↓reduceIte, inb_n, ix_n, if_true, ne_eq, Nat.reduceEqDiff, not_false_eq_true, clK_s, tl_s, tl_n, clr_i, clr_n, clr_a, nI_add, c_isWithin, tI_0, tI_1, tI_2, tI_3, tI_4, tI_5, tI_6, tI_7, tI_8, tI_19, tI_20, tI_23, tI_24, tI_29, tI_30, tI_48, tI_50, tI_57, tI_60, tI_97, tI_100, tI_122, tI_200, tI_99999, tI_m1, tI_m99999, g0, g1, c_isValue2, g2, c_isValue3, g3, bI_0, Bool.true_eq_false, Bool.false_eq_true, not_true_eq_false, not_false_eq_true, if_false, reduceCtorEq, n10]
    · simp (disch := omega) only [e125_0, e125_1, e125_2, e125_3, e125_6, e125_9, e125_12, e125_13, e125_16, e125_19, e125_20, e125_22, e125_24, e125_27, e125_30, e125_32, e125_33, e125_34, e125_35, e125_38, e125_41, e125_43, e125_44, e125_45, e125_48, e125_49, e125_50, e125_52, e125_55, e125_57, e125_58, e125_59, e125_60, e125_61, e125_62, e125_64, e125_66, e125_69, e125_70, e125_73, e125_74, e125_75, e125_76, e125_77, ↓reduceIte, gM_0, a_94, inb_n, ix_n, if_true, ne_eq, Nat.reduceEqDiff, not_false_eq_true, vM, clK_s, tl_s, tl_n, clr_i, clr_n, clr_a, nI_add, k_in, rgL_c, tL_0, tL_1, tL_2, tL_3, tL_4, tL_5, tL_6, tL_7, tL_8, tL_19, tL_30, tL_48, tL_50, tL_57, tL_60, tL_97, tL_100, tL_122, tL_200, tL_99999, tL_m1, tL_m99999, k_isPlace, k_isOneSo, g0, g1, g2, g3, Bool.false_and, Bool.true_and, bI_0, Bool.true_eq_false, Bool.false_eq_true, not_true_eq_false, not_false_eq_true, if_false, reduceCtorEq]
  | true =>
  cases g4 : rg (-1) 7 v4 with
  | false =>
    refine ok_read (vv := (-1000000001)) hI ?_ ?_
    · simp (disch := omega) only [e51_0, e51_1, e51_2, e51_3, e51_6, e51_9, e51_10, e51_11, e51_13, e51_16, e51_19, e51_20, e51_23, e51_24, e51_26, e51_28, e51_31, e51_32, e51_33, e51_36, e51_39, e51_40, e51_42, e51_45, e51_48, e51_49, e51_51, e51_54, e51_57, e51_59, e51_60, e51_61, e51_64, e51_65, e51_68, e51_71, e51_73, e51_74, e51_75, e51_78, e51_81, e51_83, e51_86, e51_88, e51_89, e51_90, e51_93, e51_94, e51_95, e51_96, e51_98, e51_100, e51_103, ↓reduceIte, inb_n, ix_n, if_true, ne_eq, Nat.reduceEqDiff, not_false_eq_true, clK_s, tl_s, tl_n, clr_i, clr_n, clr_a, nI_add, c_isWithin, tI_0, tI_1, tI_2, tI_3, tI_4, tI_5, tI_6, tI_7, tI_8, tI_19, tI_20, tI_23, tI_24, tI_29, tI_30, tI_48, tI_50, tI_57, tI_60, tI_97, tI_100, tI_122, tI_200, tI_99999, tI_m1, tI_m99999, g0, g1, c_isValue2, g2, c_isValue3, g3, c_isValue4, g4, bI_0, Bool.true_eq_false, Bool.false_eq_true, not_true_eq_false, not_false_eq_true, if_false, reduceCtorEq, n10]
    · simp (disch := omega) only [e125_0, e125_1, e125_2, e125_3, e125_6, e125_9, e125_12, e125_13, e125_16, e125_19, e125_20, e125_22, e125_24, e125_27, e125_30, e125_32, e125_33, e125_34, e125_35, e125_38, e125_41, e125_43, e125_44, e125_45, e125_48, e125_49, e125_50, e125_52, e125_55, e125_57, e125_58, e125_59, e125_60, e125_61, e125_62, e125_64, e125_66, e125_69, e125_70, e125_73, e125_74, e125_75, e125_76, e125_77, ↓reduceIte, gM_0, a_94, inb_n, ix_n, if_true, ne_eq, Nat.reduceEqDiff, not_false_eq_true, vM, clK_s, tl_s, tl_n, clr_i, clr_n, clr_a, nI_add, k_in, rgL_c, tL_0, tL_1, tL_2, tL_3, tL_4, tL_5, tL_6, tL_7, tL_8, tL_19, tL_30, tL_48, tL_50, tL_57, tL_60, tL_97, tL_100, tL_122, tL_200, tL_99999, tL_m1, tL_m99999, k_isPlace, k_isOneSo, g0, g1, g2, g3, g4, Bool.true_and, bI_0, Bool.true_eq_false, Bool.false_eq_true, not_true_eq_false, not_false_eq_true, if_false, reduceCtorEq]
  | true =>
    obtain ⟨cz, hc6, rfl⟩ := rg_e (n := 5) rfl g0
    obtain ⟨pz, hp, rfl⟩ := rg_e (n := 19) rfl g1
    have hp : pz < 20 := by omega
    cases hf : spFr A (nI pz) with
    | false =>
      refine ok_read (vv := (-1000000002)) hI ?_ ?_
      · simp (disch := omega) only [e51_0, e51_1, e51_2, e51_3, e51_6, e51_9, e51_10, e51_11, e51_13, e51_16, e51_19, e51_20, e51_23, e51_24, e51_26, e51_28, e51_31, e51_32, e51_33, e51_36, e51_39, e51_40, e51_42, e51_45, e51_48, e51_49, e51_51, e51_54, e51_57, e51_59, e51_60, e51_61, e51_64, e51_65, e51_68, e51_71, e51_73, e51_74, e51_75, e51_78, e51_81, e51_83, e51_86, e51_88, e51_89, e51_90, e51_93, e51_94, e51_95, e51_96, e51_98, e51_100, e51_103, ↓reduceIte, inb_n, ix_n, if_true, ne_eq, Nat.reduceEqDiff, not_false_eq_true, clK_s, tl_s, tl_n, clr_i, clr_n, clr_a, nI_add, c_isWithin, tI_0, tI_1, tI_2, tI_3, tI_4, tI_5, tI_6, tI_7, tI_8, tI_19, tI_20, tI_23, tI_24, tI_29, tI_30, tI_48, tI_50, tI_57, tI_60, tI_97, tI_100, tI_122, tI_200, tI_99999, tI_m1, tI_m99999, g0, g1, c_isValue2, g2, c_isValue3, g3, c_isValue4, g4, bI_0, Bool.true_eq_false, Bool.false_eq_true, not_true_eq_false, not_false_eq_true, if_false, reduceCtorEq, n10, gX_2, gT_0 t36, gT_1 t36, gT_2 t36, gT_3 t36, gT_4 t36, gT_5 t36, gT_6 t36, gT_7 t36, gT_8 t36, gT_9 t36, gT_10 t36, gT_11 t36, gT_12 t36, gT_13 t36, gT_14 t36, gT_15 t36, gT_16 t36, gT_17 t36, pT_10 t36, pT_11 t36, pT_12 t36, pT_13 t36, pT_14 t36, pT_15 t36, pT_16 t36, pT_17 t36, aT_1 t36, aT_2 t36, aT_3 t36, aT_4 t36, aT_5 t36, aT_6 t36, aT_7 t36, aT_8 t36, aT_9 t36, sT_1 t36, sT_2 t36, sT_3 t36, sT_4 t36, sT_5 t36, sT_6 t36, sT_7 t36, sT_8 t36, sT_9 t36, vT t36, c_isFree t36 hC h8 hp, hf]
      · simp (disch := omega) only [e125_0, e125_1, e125_2, e125_3, e125_6, e125_9, e125_12, e125_13, e125_16, e125_19, e125_20, e125_22, e125_24, e125_27, e125_30, e125_32, e125_33, e125_34, e125_35, e125_38, e125_41, e125_43, e125_44, e125_45, e125_48, e125_49, e125_50, e125_52, e125_55, e125_57, e125_58, e125_59, e125_60, e125_61, e125_62, e125_64, e125_66, e125_69, e125_70, e125_73, e125_74, e125_75, e125_76, e125_77, ↓reduceIte, gM_0, a_94, inb_n, ix_n, if_true, ne_eq, Nat.reduceEqDiff, not_false_eq_true, vM, clK_s, tl_s, tl_n, clr_i, clr_n, clr_a, nI_add, k_in, rgL_c, tL_0, tL_1, tL_2, tL_3, tL_4, tL_5, tL_6, tL_7, tL_8, tL_19, tL_30, tL_48, tL_50, tL_57, tL_60, tL_97, tL_100, tL_122, tL_200, tL_99999, tL_m1, tL_m99999, k_isPlace, k_isOneSo, g0, g1, g2, g3, g4, Bool.true_and, bI_0, Bool.true_eq_false, Bool.false_eq_true, not_true_eq_false, not_false_eq_true, if_false, reduceCtorEq, k_isFree hM h8, hf]
    | true =>
      have e0 := hC.1
      have m0 := hM.1
      by_cases hn : tN A < 8
      · have hn1 : nI (tN A) < nI 8 := nI_lt hn (by omega)
        have hn2 : ¬ nI (tN A) = nI 8 := fun z => by have := (nI_eq (by omega) (by omega)).mp z; omega
        obtain ⟨σ1, a1, a2, a3⟩ := c_comes (E := E) (d := d + 49) (v0 := nI cz) (v2 := v2) (v3 := v3) (v4 := v4) t36 hC hn hp (spFr_iff.mp hf).1
        have e94 : σ1 94 = σ 94 := a2 94 (by omega) (by omega)
        have hM1 : MR (σ1 94) A := by rw [e94]; exact hM
        have m1 := hM1.1
        obtain ⟨σ2, b1, b2, b3⟩ := k_comes (E := E) (d := d + 48) (v0 := nI cz) (v1 := nI pz) (v2 := v2) (v3 := v3) (v4 := v4) hM1 hn
        have m2 : σ2 94 0 = nI (tN A + 1) := b3.1
        refine ⟨nI (tN A), σ1, σ2, _, B, im, ?_, ?_, hI.q ((QT.f36 a2).tr (QT.fr (b2.mono (by decide)))) (a3.ext (fun a h1 h2 _ => b2 a (by simp; omega))) b3 (WFp_p hW hn (by omega) hp hf g2 g3 g4) hc rfl⟩
        · simp (disch := omega) only [e51_0, e51_1, e51_2, e51_3, e51_6, e51_9, e51_10, e51_11, e51_13, e51_16, e51_19, e51_20, e51_23, e51_24, e51_26, e51_28, e51_31, e51_32, e51_33, e51_36, e51_39, e51_40, e51_42, e51_45, e51_48, e51_49, e51_51, e51_54, e51_57, e51_59, e51_60, e51_61, e51_64, e51_65, e51_68, e51_71, e51_73, e51_74, e51_75, e51_78, e51_81, e51_83, e51_86, e51_88, e51_89, e51_90, e51_93, e51_94, e51_95, e51_96, e51_98, e51_100, e51_103, ↓reduceIte, inb_n, ix_n, if_true, ne_eq, Nat.reduceEqDiff, not_false_eq_true, clK_s, tl_s, tl_n, clr_i, clr_n, clr_a, nI_add, c_isWithin, tI_0, tI_1, tI_2, tI_3, tI_4, tI_5, tI_6, tI_7, tI_8, tI_19, tI_20, tI_23, tI_24, tI_29, tI_30, tI_48, tI_50, tI_57, tI_60, tI_97, tI_100, tI_122, tI_200, tI_99999, tI_m1, tI_m99999, g0, g1, c_isValue2, g2, c_isValue3, g3, c_isValue4, g4, bI_0, Bool.true_eq_false, Bool.false_eq_true, not_true_eq_false, not_false_eq_true, if_false, reduceCtorEq, n10, gX_2, gT_0 t36, gT_1 t36, gT_2 t36, gT_3 t36, gT_4 t36, gT_5 t36, gT_6 t36, gT_7 t36, gT_8 t36, gT_9 t36, gT_10 t36, gT_11 t36, gT_12 t36, gT_13 t36, gT_14 t36, gT_15 t36, gT_16 t36, gT_17 t36, pT_10 t36, pT_11 t36, pT_12 t36, pT_13 t36, pT_14 t36, pT_15 t36, pT_16 t36, pT_17 t36, aT_1 t36, aT_2 t36, aT_3 t36, aT_4 t36, aT_5 t36, aT_6 t36, aT_7 t36, aT_8 t36, aT_9 t36, sT_1 t36, sT_2 t36, sT_3 t36, sT_4 t36, sT_5 t36, sT_6 t36, sT_7 t36, sT_8 t36, sT_9 t36, vT t36, c_isFree t36 hC h8 hp, hf, e0, hn1, a1]
        · simp (disch := omega) only [e125_0, e125_1, e125_2, e125_3, e125_6, e125_9, e125_12, e125_13, e125_16, e125_19, e125_20, e125_22, e125_24, e125_27, e125_30, e125_32, e125_33, e125_34, e125_35, e125_38, e125_41, e125_43, e125_44, e125_45, e125_48, e125_49, e125_50, e125_52, e125_55, e125_57, e125_58, e125_59, e125_60, e125_61, e125_62, e125_64, e125_66, e125_69, e125_70, e125_73, e125_74, e125_75, e125_76, e125_77, ↓reduceIte, gM_0, a_94, inb_n, ix_n, if_true, ne_eq, Nat.reduceEqDiff, not_false_eq_true, vM, clK_s, tl_s, tl_n, clr_i, clr_n, clr_a, nI_add, k_in, rgL_c, tL_0, tL_1, tL_2, tL_3, tL_4, tL_5, tL_6, tL_7, tL_8, tL_19, tL_30, tL_48, tL_50, tL_57, tL_60, tL_97, tL_100, tL_122, tL_200, tL_99999, tL_m1, tL_m99999, k_isPlace, k_isOneSo, g0, g1, g2, g3, g4, Bool.true_and, bI_0, Bool.true_eq_false, Bool.false_eq_true, not_true_eq_false, not_false_eq_true, if_false, reduceCtorEq, k_isFree hM1 h8, hf, m1, hn2, b1, m2, pk_sub, Nat.add_sub_cancel]
      · have h88 : tN A = 8 := by omega
        rw [h88] at e0 m0
        have hn1 : ¬ nI 8 < nI 8 := by decide +kernel
        refine ok_read (vv := (-1000000003)) hI ?_ ?_
        · simp (disch := omega) only [e51_0, e51_1, e51_2, e51_3, e51_6, e51_9, e51_10, e51_11, e51_13, e51_16, e51_19, e51_20, e51_23, e51_24, e51_26, e51_28, e51_31, e51_32, e51_33, e51_36, e51_39, e51_40, e51_42, e51_45, e51_48, e51_49, e51_51, e51_54, e51_57, e51_59, e51_60, e51_61, e51_64, e51_65, e51_68, e51_71, e51_73, e51_74, e51_75, e51_78, e51_81, e51_83, e51_86, e51_88, e51_89, e51_90, e51_93, e51_94, e51_95, e51_96, e51_98, e51_100, e51_103, ↓reduceIte, inb_n, ix_n, if_true, ne_eq, Nat.reduceEqDiff, not_false_eq_true, clK_s, tl_s, tl_n, clr_i, clr_n, clr_a, nI_add, c_isWithin, tI_0, tI_1, tI_2, tI_3, tI_4, tI_5, tI_6, tI_7, tI_8, tI_19, tI_20, tI_23, tI_24, tI_29, tI_30, tI_48, tI_50, tI_57, tI_60, tI_97, tI_100, tI_122, tI_200, tI_99999, tI_m1, tI_m99999, g0, g1, c_isValue2, g2, c_isValue3, g3, c_isValue4, g4, bI_0, Bool.true_eq_false, Bool.false_eq_true, not_true_eq_false, not_false_eq_true, if_false, reduceCtorEq, n10, gX_2, gT_0 t36, gT_1 t36, gT_2 t36, gT_3 t36, gT_4 t36, gT_5 t36, gT_6 t36, gT_7 t36, gT_8 t36, gT_9 t36, gT_10 t36, gT_11 t36, gT_12 t36, gT_13 t36, gT_14 t36, gT_15 t36, gT_16 t36, gT_17 t36, pT_10 t36, pT_11 t36, pT_12 t36, pT_13 t36, pT_14 t36, pT_15 t36, pT_16 t36, pT_17 t36, aT_1 t36, aT_2 t36, aT_3 t36, aT_4 t36, aT_5 t36, aT_6 t36, aT_7 t36, aT_8 t36, aT_9 t36, sT_1 t36, sT_2 t36, sT_3 t36, sT_4 t36, sT_5 t36, sT_6 t36, sT_7 t36, sT_8 t36, sT_9 t36, vT t36, c_isFree t36 hC h8 hp, hf, e0, hn1]
        · simp (disch := omega) only [e125_0, e125_1, e125_2, e125_3, e125_6, e125_9, e125_12, e125_13, e125_16, e125_19, e125_20, e125_22, e125_24, e125_27, e125_30, e125_32, e125_33, e125_34, e125_35, e125_38, e125_41, e125_43, e125_44, e125_45, e125_48, e125_49, e125_50, e125_52, e125_55, e125_57, e125_58, e125_59, e125_60, e125_61, e125_62, e125_64, e125_66, e125_69, e125_70, e125_73, e125_74, e125_75, e125_76, e125_77, ↓reduceIte, gM_0, a_94, inb_n, ix_n, if_true, ne_eq, Nat.reduceEqDiff, not_false_eq_true, vM, clK_s, tl_s, tl_n, clr_i, clr_n, clr_a, nI_add, k_in, rgL_c, tL_0, tL_1, tL_2, tL_3, tL_4, tL_5, tL_6, tL_7, tL_8, tL_19, tL_30, tL_48, tL_50, tL_57, tL_60, tL_97, tL_100, tL_122, tL_200, tL_99999, tL_m1, tL_m99999, k_isPlace, k_isOneSo, g0, g1, g2, g3, g4, Bool.true_and, bI_0, Bool.true_eq_false, Bool.false_eq_true, not_true_eq_false, not_false_eq_true, if_false, reduceCtorEq, k_isFree hM h8, hf, m0]
end Deal
