/-! THE REFERENCE READS: a whole text -/
def spK (x : Nat ⊕ Tx) : Int32 := match x with
  | .inl _ => (-1)
  | .inr tx => nI tx.1
def KG (σ : Nat → Nat → Int32) (L : Nat) (tx : Tx) : Prop := σ 93 23 = nI tx.2.2.length ∧ σ 93 25 = nI tx.2.1 ∧ ∀ i w xv, tx.2.2[i]? = some (w, xv) → σ 94 (L + 2 * i) = nI w ∧ σ 94 (L + 2 * i + 1) = xv
section Kparse
variable {E : aE} {D n L : Nat} {tp : Nat → Nat} {σ : Nat → Nat → Int32} {tk : Tk}
theorem tkR_1 : tkR tk = 1 ↔ tk.1 = 1 := by
  unfold tkR
  split <;> omega
theorem tkR_0 : tkR tk = 0 ↔ tk.1 = 0 := by
  unfold tkR
  split <;> omega
theorem k_isWordAt {az bz cz dz : Nat} (hK : KP σ n tp) (hT : KT σ tp tk) (hw : tkW tp n tk) (ha : az < 128) (hb : bz < 128) (hc : cz < 128) (hd : dz < 128) : Rn E D 174 0 [some (.ref 93), some (.int (nI az)), some (.int (nI bz)), some (.int (nI cz)), some (.int (nI dz)), none] [] (shp, σ) = some (some (.int (bI (decide (wd4 tp tk az bz cz dz)))), (shp, σ)) := by
  obtain ⟨k1, k2, k3, k4, k5, k6⟩ := hT
  obtain ⟨w1, w2, w3, w4, w5, w6⟩ := hw
  have h96 := hK.1
  have hgo : Rn E D 174 0 [some (.ref 93), some (.int (nI az)), some (.int (nI bz)), some (.int (nI cz)), some (.int (nI dz)), none] [] (shp, σ) = Rn E D 174 12 [some (.ref 93), some (.int (nI az)), some (.int (nI bz)), some (.int (nI cz)), some (.int (nI dz)), some (.int (nI (if dz = 0 then 3 else 4)))] [] (shp, σ) := by
    by_cases h0 : dz = 0
    · subst h0
      simp (disch := omega) only [e174_0, e174_2, e174_5, e174_6, e174_9, e174_10, ↓reduceIte, gM_0, a_94, inb_n, ix_n, if_true, ne_eq, Nat.reduceEqDiff, not_false_eq_true, vM, clK_s, tl_s, tl_n, clr_i, clr_n, clr_a, nI_add, not_true_eq_false]
    · have h0' : ¬ nI dz = nI 0 := fun z => h0 ((nI_eq (by omega) (by omega)).mp z)
      rw [if_neg h0]
      simp (disch := omega) only [e174_0, e174_2, e174_5, e174_6, e174_9, e174_10, ↓reduceIte, gM_0, a_94, inb_n, ix_n, if_true, ne_eq, Nat.reduceEqDiff, not_false_eq_true, vM, clK_s, tl_s, tl_n, clr_i, clr_n, clr_a, nI_add, h0']
  rw [hgo]
  have h34 : (if dz = 0 then 3 else 4) ≤ 4 := by split <;> omega
  unfold wd4
  generalize hln : (if dz = 0 then 3 else 4) = ln at h34
  have hR4 : tkR tk ≤ 4 := by unfold tkR; split <;> omega
  by_cases h1 : tk.1 = 1
  · have k3' : σ 93 18 = nI 1 := by rw [k3, tkR_1.mpr h1]
    by_cases h2 : tk.2.2 - tk.2.1 = ln
    · have h2' : nI (tk.2.2 - tk.2.1) = nI ln := by rw [h2]
      have hl3 : 3 ≤ ln := by rw [← hln]; split <;> omega
      obtain ⟨t0, e0⟩ := hK.2.2 tk.2.1 (by omega)
      obtain ⟨t1, e1⟩ := hK.2.2 (tk.2.1 + 1) (by omega)
      obtain ⟨t2, e2⟩ := hK.2.2 (tk.2.1 + 2) (by omega)
      have hs1 : Rn E D 174 12 [some (.ref 93), some (.int (nI az)), some (.int (nI bz)), some (.int (nI cz)), some (.int (nI dz)), some (.int (nI ln))] [] (shp, σ) = Rn E D 174 44 [some (.ref 93), some (.int (nI az)), some (.int (nI bz)), some (.int (nI cz)), some (.int (nI dz)), some (.int (nI ln))] [.int (nI az), .int (nI (tp tk.2.1))] (shp, σ) := by
        simp (disch := omega) only [e174_12, e174_13, e174_16, e174_17, e174_20, e174_21, e174_24, e174_25, e174_28, e174_29, ↓reduceIte, gM_0, a_94, inb_n, ix_n, if_true, ne_eq, Nat.reduceEqDiff, not_false_eq_true, vM, clK_s, tl_s, tl_n, clr_i, clr_n, clr_a, nI_add, gM_16, gM_17, gM_18, k1, k2, k3', not_true_eq_false, pk_sub]
        rw [e174_31, if_neg (fun z => z h2')]
        simp (disch := omega) only [e174_34, e174_35, e174_38, e174_39, e174_42, e174_43, ↓reduceIte, gM_0, a_94, inb_n, ix_n, if_true, ne_eq, Nat.reduceEqDiff, not_false_eq_true, vM, clK_s, tl_s, tl_n, clr_i, clr_n, clr_a, nI_add, gM_14, gM_16, k1, a_107, e0]
      rw [hs1]
      by_cases h3 : tp tk.2.1 = az
      · have h3' : nI (tp tk.2.1) = nI az := by rw [h3]
        rw [e174_44, if_neg (fun z => z h3')]
        have hs2 : Rn E D 174 47 [some (.ref 93), some (.int (nI az)), some (.int (nI bz)), some (.int (nI cz)), some (.int (nI dz)), some (.int (nI ln))] [] (shp, σ) = Rn E D 174 59 [some (.ref 93), some (.int (nI az)), some (.int (nI bz)), some (.int (nI cz)), some (.int (nI dz)), some (.int (nI ln))] [.int (nI bz), .int (nI (tp (tk.2.1 + 1)))] (shp, σ) := by
          simp (disch := omega) only [e174_47, e174_48, e174_51, e174_52, e174_55, e174_56, e174_57, e174_58, ↓reduceIte, gM_0, a_94, inb_n, ix_n, if_true, ne_eq, Nat.reduceEqDiff, not_false_eq_true, vM, clK_s, tl_s, tl_n, clr_i, clr_n, clr_a, nI_add, gM_14, gM_16, k1, a_107, e1]
        rw [hs2]
        by_cases h4 : tp (tk.2.1 + 1) = bz
        · have h4' : nI (tp (tk.2.1 + 1)) = nI bz := by rw [h4]
          rw [e174_59, if_neg (fun z => z h4')]
          have hs3 : Rn E D 174 62 [some (.ref 93), some (.int (nI az)), some (.int (nI bz)), some (.int (nI cz)), some (.int (nI dz)), some (.int (nI ln))] [] (shp, σ) = Rn E D 174 74 [some (.ref 93), some (.int (nI az)), some (.int (nI bz)), some (.int (nI cz)), some (.int (nI dz)), some (.int (nI ln))] [.int (nI cz), .int (nI (tp (tk.2.1 + 2)))] (shp, σ) := by
            simp (disch := omega) only [e174_62, e174_63, e174_66, e174_67, e174_70, e174_71, e174_72, e174_73, ↓reduceIte, gM_0, a_94, inb_n, ix_n, if_true, ne_eq, Nat.reduceEqDiff, not_false_eq_true, vM, clK_s, tl_s, tl_n, clr_i, clr_n, clr_a, nI_add, gM_14, gM_16, k1, a_107, e2]
          rw [hs3]
          by_cases h5 : tp (tk.2.1 + 2) = cz
          · have h5' : nI (tp (tk.2.1 + 2)) = nI cz := by rw [h5]
            rw [e174_74, if_neg (fun z => z h5')]
            by_cases h0 : dz = 0
            · rw [decide_eq_true ⟨h1, h2, h3, h4, h5, Or.inl h0⟩]
              subst h0
              simp (disch := omega) only [e174_77, e174_79, e174_82, e174_83, e174_86, e174_87, e174_90, e174_91, e174_92, e174_93, e174_95, e174_98, e174_99, e174_102, e174_103, ↓reduceIte, gM_0, a_94, inb_n, ix_n, if_true, ne_eq, Nat.reduceEqDiff, not_false_eq_true, vM, clK_s, tl_s, tl_n, clr_i, clr_n, clr_a, nI_add, rz_1]
            · have h0' : ¬ nI dz = nI 0 := fun z => h0 ((nI_eq (by omega) (by omega)).mp z)
              have hl4 : ln = 4 := by rw [← hln, if_neg h0]
              obtain ⟨t3, e3⟩ := hK.2.2 (tk.2.1 + 3) (by omega)
              have hs4 : Rn E D 174 77 [some (.ref 93), some (.int (nI az)), some (.int (nI bz)), some (.int (nI cz)), some (.int (nI dz)), some (.int (nI ln))] [] (shp, σ) = Rn E D 174 95 [some (.ref 93), some (.int (nI az)), some (.int (nI bz)), some (.int (nI cz)), some (.int (nI dz)), some (.int (nI ln))] [.int (nI dz), .int (nI (tp (tk.2.1 + 3)))] (shp, σ) := by
                simp (disch := omega) only [e174_77, e174_79, e174_82, e174_83, e174_86, e174_87, e174_90, e174_91, e174_92, e174_93, ↓reduceIte, gM_0, a_94, inb_n, ix_n, if_true, ne_eq, Nat.reduceEqDiff, not_false_eq_true, vM, clK_s, tl_s, tl_n, clr_i, clr_n, clr_a, nI_add, h0', gM_14, gM_16, k1, a_107, e3]
              rw [hs4]
              by_cases h6 : tp (tk.2.1 + 3) = dz
              · have h6' : nI (tp (tk.2.1 + 3)) = nI dz := by rw [h6]
                rw [decide_eq_true ⟨h1, h2, h3, h4, h5, Or.inr h6⟩, e174_95, if_neg (fun z => z h6')]
                simp (disch := omega) only [e174_98, e174_99, e174_102, e174_103, rz_1]
              · have h6' : ¬ nI (tp (tk.2.1 + 3)) = nI dz := fun z => h6 ((nI_eq (by omega) (by omega)).mp z)
                rw [decide_eq_false (fun z => z.2.2.2.2.2.elim h0 h6), e174_95, if_pos h6']
                simp (disch := omega) only [e174_102, e174_103, rz_0]
          · have h5' : ¬ nI (tp (tk.2.1 + 2)) = nI cz := fun z => h5 ((nI_eq (by omega) (by omega)).mp z)
            rw [decide_eq_false (fun z => h5 z.2.2.2.2.1), e174_74, if_pos h5']
            simp (disch := omega) only [e174_102, e174_103, rz_0]
        · have h4' : ¬ nI (tp (tk.2.1 + 1)) = nI bz := fun z => h4 ((nI_eq (by omega) (by omega)).mp z)
          rw [decide_eq_false (fun z => h4 z.2.2.2.1), e174_59, if_pos h4']
          simp (disch := omega) only [e174_102, e174_103, rz_0]
      · have h3' : ¬ nI (tp tk.2.1) = nI az := fun z => h3 ((nI_eq (by omega) (by omega)).mp z)
        rw [decide_eq_false (fun z => h3 z.2.2.1), e174_44, if_pos h3']
        simp (disch := omega) only [e174_102, e174_103, rz_0]
    · have h2' : ¬ nI (tk.2.2 - tk.2.1) = nI ln := fun z => h2 ((nI_eq (by omega) (by omega)).mp z)
      rw [decide_eq_false (fun z => h2 z.2.1)]
      simp (disch := omega) only [e174_12, e174_13, e174_16, e174_17, e174_20, e174_21, e174_24, e174_25, e174_28, e174_29, e174_31, e174_102, e174_103, ↓reduceIte, gM_0, a_94, inb_n, ix_n, if_true, ne_eq, Nat.reduceEqDiff, not_false_eq_true, vM, clK_s, tl_s, tl_n, clr_i, clr_n, clr_a, nI_add, gM_16, gM_17, gM_18, k1, k2, k3', not_true_eq_false, pk_sub, h2', rz_0]
  · have h1' : ¬ nI (tkR tk) = nI 1 := fun z => h1 (tkR_1.mp ((nI_eq (by omega) (by omega)).mp z))
    rw [decide_eq_false (fun z => h1 z.1)]
    simp (disch := omega) only [e174_12, e174_13, e174_16, e174_17, e174_102, e174_103, ↓reduceIte, gM_0, a_94, inb_n, ix_n, if_true, ne_eq, Nat.reduceEqDiff, not_false_eq_true, vM, clK_s, tl_s, tl_n, clr_i, clr_n, clr_a, nI_add, gM_18, k3, h1', rz_0]
theorem k_key (hK : KP σ n tp) (hT : KT σ tp tk) (hw : tkW tp n tk) : Rn E (D + 1) 175 0 [some (.ref 93)] [] (shp, σ) = some (some (.int (oK (kyF tp tk))), (shp, σ)) := by
  have q0 := k_isWordAt (E := E) (D := D) (az := 112) (bz := 117) (cz := 108) (dz := 108) hK hT hw (by omega) (by omega) (by omega) (by omega)
  have q1 := k_isWordAt (E := E) (D := D) (az := 102) (bz := 101) (cz := 101) (dz := 0) hK hT hw (by omega) (by omega) (by omega) (by omega)
  have q2 := k_isWordAt (E := E) (D := D) (az := 102) (bz := 105) (cz := 110) (dz := 101) hK hT hw (by omega) (by omega) (by omega) (by omega)
  unfold kyF
  by_cases h1 : wd4 tp tk 112 117 108 108
  · rw [decide_eq_true h1] at q0
    rw [if_pos h1]
    simp (disch := omega) only [e175_0, e175_1, e175_3, e175_5, e175_7, e175_9, e175_12, e175_15, e175_16, e175_17, e175_18, e175_20, e175_22, e175_24, e175_25, e175_28, e175_31, e175_32, e175_33, e175_34, e175_36, e175_38, e175_40, e175_42, e175_45, e175_48, e175_49, e175_52, e175_53, ↓reduceIte, gM_0, a_94, inb_n, ix_n, if_true, ne_eq, Nat.reduceEqDiff, not_false_eq_true, vM, clK_s, tl_s, tl_n, clr_i, clr_n, clr_a, nI_add, q0, bI_0, Bool.true_eq_false, Bool.false_eq_true, not_true_eq_false, not_false_eq_true, if_false, reduceCtorEq, oK]
  · rw [decide_eq_false h1] at q0
    rw [if_neg h1]
    by_cases h2 : wd4 tp tk 102 101 101 0
    · rw [decide_eq_true h2] at q1
      rw [if_pos h2]
      simp (disch := omega) only [e175_0, e175_1, e175_3, e175_5, e175_7, e175_9, e175_12, e175_15, e175_16, e175_17, e175_18, e175_20, e175_22, e175_24, e175_25, e175_28, e175_31, e175_32, e175_33, e175_34, e175_36, e175_38, e175_40, e175_42, e175_45, e175_48, e175_49, e175_52, e175_53, ↓reduceIte, gM_0, a_94, inb_n, ix_n, if_true, ne_eq, Nat.reduceEqDiff, not_false_eq_true, vM, clK_s, tl_s, tl_n, clr_i, clr_n, clr_a, nI_add, q0, q1, bI_0, Bool.true_eq_false, Bool.false_eq_true, not_true_eq_false, not_false_eq_true, if_false, reduceCtorEq, oK]
    · rw [decide_eq_false h2] at q1
      rw [if_neg h2]
      by_cases h3 : wd4 tp tk 102 105 110 101
      · rw [decide_eq_true h3] at q2
        rw [if_pos h3]
        simp (disch := omega) only [e175_0, e175_1, e175_3, e175_5, e175_7, e175_9, e175_12, e175_15, e175_16, e175_17, e175_18, e175_20, e175_22, e175_24, e175_25, e175_28, e175_31, e175_32, e175_33, e175_34, e175_36, e175_38, e175_40, e175_42, e175_45, e175_48, e175_49, e175_52, e175_53, ↓reduceIte, gM_0, a_94, inb_n, ix_n, if_true, ne_eq, Nat.reduceEqDiff, not_false_eq_true, vM, clK_s, tl_s, tl_n, clr_i, clr_n, clr_a, nI_add, q0, q1, q2, bI_0, Bool.true_eq_false, Bool.false_eq_true, not_true_eq_false, not_false_eq_true, if_false, reduceCtorEq, oK]
      · rw [decide_eq_false h3] at q2
        rw [if_neg h3]
        simp (disch := omega) only [e175_0, e175_1, e175_3, e175_5, e175_7, e175_9, e175_12, e175_15, e175_16, e175_17, e175_18, e175_20, e175_22, e175_24, e175_25, e175_28, e175_31, e175_32, e175_33, e175_34, e175_36, e175_38, e175_40, e175_42, e175_45, e175_48, e175_49, e175_52, e175_53, ↓reduceIte, gM_0, a_94, inb_n, ix_n, if_true, ne_eq, Nat.reduceEqDiff, not_false_eq_true, vM, clK_s, tl_s, tl_n, clr_i, clr_n, clr_a, nI_add, q0, q1, q2, bI_0, Bool.true_eq_false, Bool.false_eq_true, not_true_eq_false, not_false_eq_true, if_false, reduceCtorEq, oK]
end Kparse
