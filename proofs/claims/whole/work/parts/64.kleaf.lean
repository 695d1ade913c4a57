/-! THE REFERENCE READS: its small steps -/
def KS (σ : Nat → Nat → Int32) (n : Nat) (tp : Nat → Nat) (L nt dp : Nat) (s : PS) : Prop := KP σ n tp ∧ KT σ tp s.1 ∧ σ 93 21 = nI dp ∧ σ 93 22 = nI nt ∧ σ 93 23 = nI s.2.1.length ∧ σ 93 24 = nI L ∧ σ 93 25 = nI s.2.2 ∧ ∀ i w xv, s.2.1[i]? = some (w, xv) → σ 94 (L + 2 * i) = nI w ∧ σ 94 (L + 2 * i + 1) = xv
def KF (L : Nat) (σ σ2 : Nat → Nat → Int32) : Prop := Fr [93, 94] σ σ2 ∧ (∀ i, i < 16 ∨ 25 < i → σ2 93 i = σ 93 i) ∧ ∀ j, j < L ∨ L + 192 ≤ j → σ2 94 j = σ 94 j
section Kleaf
variable {E : aE} {D n key L nt dp : Nat} {tp : Nat → Nat} {σ σ1 σ2 : Nat → Nat → Int32} {s : PS} {tk : Tk}
theorem KF.rf : KF L σ σ := ⟨Fr.rf, fun _ _ => rfl, fun _ _ => rfl⟩
theorem KF.tr (h1 : KF L σ σ1) (h2 : KF L σ1 σ2) : KF L σ σ2 := ⟨h1.1.tr h2.1, fun i hi => (h2.2.1 i hi).trans (h1.2.1 i hi), fun j hj => (h2.2.2 j hj).trans (h1.2.2 j hj)⟩
theorem KF.f {i : Nat} {xv : Int32} (h1 : KF L σ σ1) (h16 : 16 ≤ i) (h25 : i ≤ 25) : KF L σ (su σ1 93 i xv) := ⟨h1.1.su (by simp), fun j hj => by rw [su_p (Or.inr (by omega))]; exact h1.2.1 j hj, fun j hj => by rw [su_p (Or.inl (by omega))]; exact h1.2.2 j hj⟩
theorem KF.s94 {i : Nat} {xv : Int32} (h1 : KF L σ σ1) (h16 : L ≤ i) (h25 : i < L + 192) : KF L σ (su σ1 94 i xv) := ⟨h1.1.su (by simp), fun j hj => by rw [su_p (Or.inl (by omega))]; exact h1.2.1 j hj, fun j hj => by rw [su_p (Or.inr (by omega))]; exact h1.2.2 j hj⟩
theorem tkR_3 : tkR tk = 3 ↔ tk.1 = 3 := by
  unfold tkR
  split <;> omega
theorem k_nx (hD : 2 ≤ D) (hS : KS σ n tp L nt dp s) (w : tkW tp n s.1) (h0 : s.1.1 ≠ 0) (hR : tkR s.1 = s.1.1) : ∃ σ2, Rn E D 172 0 [some (.ref 93), none, none] [] (shp, σ) = some (none, (shp, σ2)) ∧ KF L σ σ2 ∧ KS σ2 n tp L nt dp (nxS tp n s) := by
  obtain ⟨d, rfl⟩ : ∃ d, D = d + 2 := ⟨D - 2, by omega⟩
  obtain ⟨s1, s2, s3, s4, s5, s6, s7, s8⟩ := hS
  obtain ⟨σ2, g1, g2, g3, g4⟩ := k_next (E := E) (d := d) (tk := s.1) s1 s2.2.1 (by rw [← hR]; exact s2.2.2.1) w.2.1 w.2.2.1 (fun hz => by have := w.2.2.2.1; omega)
  have e94 : σ2 94 = σ 94 := g2 94 (by decide)
  refine ⟨σ2, g1, ⟨g2.mono (by simp), fun i hi => g3 i (by omega), fun j _ => by rw [e94]⟩, s1.ext (g3 15 (by omega)) (g2 107 (by decide)), g4, ?_, ?_, ?_, ?_, ?_, ?_⟩
  · rw [g3 21 (by omega)]; exact s3
  · rw [g3 22 (by omega)]; exact s4
  · rw [g3 23 (by omega)]; exact s5
  · rw [g3 24 (by omega)]; exact s6
  · rw [g3 25 (by omega)]; exact s7
  · rw [e94]; exact s8
theorem k_isSign {cz : Nat} (hK : KP σ n tp) (hT : KT σ tp tk) (hw : tkW tp n tk) (h0 : 0 < cz) (hc : cz < 128) : Rn E D 173 0 [some (.ref 93), some (.int (nI cz))] [] (shp, σ) = some (some (.int (bI (decide (sgn tp tk = cz)))), (shp, σ)) := by
  obtain ⟨k1, k2, k3, k4, k5, k6⟩ := hT
  have w3 := hw.2.2.1
  have w2 := hw.2.1
  have w4 := hw.2.2.2.1
  by_cases h3 : tk.1 = 3
  · have hs : sgn tp tk = tp tk.2.1 := by unfold sgn; rw [if_pos h3]
    have k3' : σ 93 18 = nI 3 := by rw [k3, tkR_3.mpr h3]
    have k5' := k5 h3
    have hb := (hK.2.2 tk.2.1 (by omega)).1
    rw [hs]
    by_cases hq : tp tk.2.1 = cz
    · have hq' : nI (tp tk.2.1) = nI cz := by rw [hq]
      rw [decide_eq_true hq]
      simp (disch := omega) only [e173_0, e173_1, e173_4, e173_5, e173_8, e173_9, e173_12, ↓reduceIte, gM_0, a_94, inb_n, ix_n, if_true, ne_eq, Nat.reduceEqDiff, not_false_eq_true, vM, clK_s, tl_s, tl_n, clr_i, clr_n, clr_a, nI_add, gM_18, gM_20, k3', not_true_eq_false, k5']
      rw [e173_13, if_neg (fun z => z hq')]
      simp (disch := omega) only [e173_16, e173_17, e173_20, e173_21, rz_1]
    · have hq' : ¬ nI (tp tk.2.1) = nI cz := fun z => hq ((nI_eq (by omega) (by omega)).mp z)
      rw [decide_eq_false hq]
      simp (disch := omega) only [e173_0, e173_1, e173_4, e173_5, e173_8, e173_9, e173_12, e173_13, e173_16, e173_17, e173_20, e173_21, ↓reduceIte, gM_0, a_94, inb_n, ix_n, if_true, ne_eq, Nat.reduceEqDiff, not_false_eq_true, vM, clK_s, tl_s, tl_n, clr_i, clr_n, clr_a, nI_add, gM_18, gM_20, k3', not_true_eq_false, k5', hq', rz_0]
  · have hs : sgn tp tk = 0 := by unfold sgn; rw [if_neg h3]
    have hR4 : tkR tk ≤ 4 := by unfold tkR; split <;> omega
    have h3' : ¬ nI (tkR tk) = nI 3 := fun z => h3 (tkR_3.mp ((nI_eq (by omega) (by omega)).mp z))
    rw [hs, decide_eq_false (by omega)]
    simp (disch := omega) only [e173_0, e173_1, e173_4, e173_5, e173_8, e173_9, e173_12, e173_13, e173_16, e173_17, e173_20, e173_21, ↓reduceIte, gM_0, a_94, inb_n, ix_n, if_true, ne_eq, Nat.reduceEqDiff, not_false_eq_true, vM, clK_s, tl_s, tl_n, clr_i, clr_n, clr_a, nI_add, gM_18, k3, h3', rz_0]
theorem k_step {lz wz : Nat} {xv : Int32} (h23 : σ 93 23 = nI lz) (h24 : σ 93 24 = nI L) (hl : lz < 96) (hL : L ≤ 2851) : Rn E D 177 0 [some (.ref 93), some (.int (nI wz)), some (.int xv)] [] (shp, σ) = some (none, (shp, su (su (su σ 94 (L + 2 * lz) (nI wz)) 94 (L + 2 * lz + 1) xv) 93 23 (nI (lz + 1)))) := by
  have e1 : su σ 94 (L + 2 * lz) (nI wz) 93 23 = nI lz := by rw [su_p (Or.inl (by omega))]; exact h23
  have e2 : su σ 94 (L + 2 * lz) (nI wz) 93 24 = nI L := by rw [su_p (Or.inl (by omega))]; exact h24
  have e3 : su (su σ 94 (L + 2 * lz) (nI wz)) 94 (L + 2 * lz + 1) xv 93 23 = nI lz := by rw [su_p (Or.inl (by omega))]; exact e1
  simp (disch := omega) only [e177_0, e177_1, e177_4, e177_5, e177_8, e177_9, e177_10, e177_13, e177_14, e177_15, e177_16, e177_17, e177_18, e177_21, e177_22, e177_25, e177_26, e177_27, e177_30, e177_31, e177_32, e177_33, e177_34, e177_35, e177_36, e177_37, e177_38, e177_41, e177_42, e177_43, e177_46, ↓reduceIte, gM_0, a_94, inb_n, ix_n, if_true, ne_eq, Nat.reduceEqDiff, not_false_eq_true, vM, clK_s, tl_s, tl_n, clr_i, clr_n, clr_a, nI_add, gM_23, gM_24, pM_23, s_94, pk_mul, h23, h24, e1, e2, e3]
theorem KS.ad {pp : Nat × Int32} (hS : KS σ n tp L nt dp s) : KS (su (su (su σ 94 (L + 2 * s.2.1.length) (nI pp.1)) 94 (L + 2 * s.2.1.length + 1) pp.2) 93 23 (nI (s.2.1.length + 1))) n tp L nt dp (adS pp s) := by
  obtain ⟨s1, s2, s3, s4, s5, s6, s7, s8⟩ := hS
  have e : ∀ i, i ≠ 23 → su (su (su σ 94 (L + 2 * s.2.1.length) (nI pp.1)) 94 (L + 2 * s.2.1.length + 1) pp.2) 93 23 (nI (s.2.1.length + 1)) 93 i = σ 93 i := fun i hi => by rw [su_p (Or.inr (fun z => hi z.symm)), su_p (Or.inl (by omega)), su_p (Or.inl (by omega))]
  refine ⟨s1.ext (e 15 (by omega)) (by rw [su_row (by omega), su_row (by omega), su_row (by omega)]), ?_, by rw [e 21 (by omega)]; exact s3, by rw [e 22 (by omega)]; exact s4, by rw [su_rf, pk_us, ad_l], by rw [e 24 (by omega)]; exact s6, by rw [e 25 (by omega)]; exact s7, ?_⟩
  · unfold KT
    rw [e 16 (by omega), e 17 (by omega), e 18 (by omega), e 19 (by omega), e 20 (by omega)]
    exact s2
  · intro i w xv hg
    rw [su_row (show 94 ≠ 93 by omega)]
    have hg : (s.2.1 ++ [pp])[i]? = some (w, xv) := hg
    rcases Nat.lt_trichotomy i s.2.1.length with hq | hq | hq
    · rw [List.getElem?_append_left hq] at hg
      rw [su_p (Or.inr (by omega)), su_p (Or.inr (by omega)), su_p (Or.inr (by omega)), su_p (Or.inr (by omega))]
      exact s8 i w xv hg
    · subst hq
      rw [List.getElem?_append_right (Nat.le_refl _), Nat.sub_self] at hg
      have : pp = (w, xv) := Option.some.inj hg
      rw [this]
      refine ⟨?_, ?_⟩
      · rw [su_p (Or.inr (by omega)), su_rf, pk_us]
      · rw [su_rf, pk_us]
    · rw [List.getElem?_eq_none (by rw [List.length_append]; show s.2.1.length + 1 ≤ i; omega)] at hg
      cases hg
theorem KF.ad {pp : Nat × Int32} {lz : Nat} (h1 : KF L σ σ1) (hl : lz < 96) : KF L σ (su (su (su σ1 94 (L + 2 * lz) (nI pp.1)) 94 (L + 2 * lz + 1) pp.2) 93 23 (nI (lz + 1))) := ((h1.s94 (by omega) (by omega)).s94 (by omega) (by omega)).f (by omega) (by omega)
theorem KS.f {i : Nat} {xv : Int32} {nt2 dp2 k2 : Nat} (hS : KS σ n tp L nt dp s) (hi : (i = 21 ∧ xv = nI dp2 ∧ nt2 = nt ∧ k2 = s.2.2) ∨ (i = 22 ∧ xv = nI nt2 ∧ dp2 = dp ∧ k2 = s.2.2) ∨ (i = 25 ∧ xv = nI k2 ∧ nt2 = nt ∧ dp2 = dp)) : KS (su σ 93 i xv) n tp L nt2 dp2 (s.1, s.2.1, k2) := by
  obtain ⟨s1, s2, s3, s4, s5, s6, s7, s8⟩ := hS
  have e : ∀ j, j ≠ i → su σ 93 i xv 93 j = σ 93 j := fun j hj => su_p (Or.inr (fun z => hj z.symm))
  refine ⟨s1.ext (e 15 (by omega)) (su_row (by omega)), ?_, ?_, ?_, by rw [e 23 (by omega)]; exact s5, by rw [e 24 (by omega)]; exact s6, ?_, by rw [su_row (by omega)]; exact s8⟩
  · unfold KT
    rw [e 16 (by omega), e 17 (by omega), e 18 (by omega), e 19 (by omega), e 20 (by omega)]
    exact s2
  · rcases hi with ⟨rfl, hx, h1, h2⟩ | ⟨rfl, hx, h1, h2⟩ | ⟨rfl, hx, h1, h2⟩
    · rw [su_rf, pk_us, hx]
    · rw [e 21 (by omega), h1]; exact s3
    · rw [e 21 (by omega), h2]; exact s3
  · rcases hi with ⟨rfl, hx, h1, h2⟩ | ⟨rfl, hx, h1, h2⟩ | ⟨rfl, hx, h1, h2⟩
    · rw [e 22 (by omega), h1]; exact s4
    · rw [su_rf, pk_us, hx]
    · rw [e 22 (by omega), h1]; exact s4
  · rcases hi with ⟨rfl, hx, h1, h2⟩ | ⟨rfl, hx, h1, h2⟩ | ⟨rfl, hx, h1, h2⟩
    · rw [e 25 (by omega), h2]; exact s7
    · rw [e 25 (by omega), h2]; exact s7
    · rw [su_rf, pk_us, hx]
theorem k_isName {lz : Nat} (hk : key < 3) (hl : lz < 256) : Rn E D 176 0 [some (.int (nI key)), some (.int (nI lz))] [] (shp, σ) = some (some (.int (bI (nmK key lz))), (shp, σ)) := by
  rw [e176_0, e176_1, nI_toInt (by omega)]
  have hq : ∀ cz, cz < 128 → (nI lz = nI cz ↔ lz = cz) := fun cz hc => nI_eq (by omega) (by omega)
  have q115 := hq 115 (by omega)
  have q110 := hq 110 (by omega)
  have q102 := hq 102 (by omega)
  have q103 := hq 103 (by omega)
  have q118 := hq 118 (by omega)
  have q112 := hq 112 (by omega)
  have hka : key = 0 ∨ key = 1 ∨ key = 2 := by omega
  rcases hka with rfl | rfl | rfl
  · show Rn E D 176 28 _ _ _ = _
    simp only [e176_28, e176_29, e176_31, e176_34, e176_35, e176_37, e176_40, e176_41, e176_43, e176_46, e176_47, e176_50, e176_51, q115, q110, q102, nmK, if_true, rz_1, rz_0]
    by_cases a1 : lz = 115
    · subst a1; rfl
    · by_cases a2 : lz = 110
      · subst a2; rfl
      · by_cases a3 : lz = 102
        · subst a3; rfl
        · simp only [a1, a2, a3, not_false_eq_true, if_true, if_false, beq_eq_false_iff_ne.mpr a1, beq_eq_false_iff_ne.mpr a2, beq_eq_false_iff_ne.mpr a3, Bool.or_false]
  · show Rn E D 176 52 _ _ _ = _
    simp only [e176_52, e176_53, e176_55, e176_58, e176_59, e176_61, e176_64, e176_65, e176_68, e176_69, q103, q118, nmK, if_true, if_false, rz_1, rz_0, show ¬ (1 : Nat) = 0 by decide]
    by_cases a1 : lz = 103
    · subst a1; rfl
    · by_cases a2 : lz = 118
      · subst a2; rfl
      · simp only [a1, a2, not_false_eq_true, if_true, if_false, beq_eq_false_iff_ne.mpr a1, beq_eq_false_iff_ne.mpr a2, Bool.or_false]
  · show Rn E D 176 70 _ _ _ = _
    simp only [e176_70, e176_71, e176_73, e176_76, e176_77, e176_79, e176_82, e176_83, e176_86, e176_87, q115, q112, nmK, if_true, if_false, rz_1, rz_0, show ¬ (2 : Nat) = 0 by decide, show ¬ (2 : Nat) = 1 by decide]
    by_cases a1 : lz = 115
    · subst a1; rfl
    · by_cases a2 : lz = 112
      · subst a2; rfl
      · simp only [a1, a2, not_false_eq_true, if_true, if_false, beq_eq_false_iff_ne.mpr a1, beq_eq_false_iff_ne.mpr a2, Bool.or_false]
end Kleaf
