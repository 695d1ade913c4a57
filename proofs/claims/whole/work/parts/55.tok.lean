/-! THE TAPE'S WORDS AND SIGNS -/
def kc (bz : Nat) : Nat := if 97 ≤ bz ∧ bz ≤ 122 then 1 else if 48 ≤ bz ∧ bz ≤ 57 then 2 else 3
def sA (tp : Nat → Nat) (n pz : Nat) : Nat := if pz < n then kc (tp pz) else 0
def skF (tp : Nat → Nat) : Nat → Nat → Nat
  | 0, pz => pz
  | r + 1, pz => if tp pz = 32 then skF tp r (pz + 1) else pz
def rnF (tp : Nat → Nat) (kz : Nat) : Nat → Nat → Nat
  | 0, pz => pz
  | r + 1, pz => if kc (tp pz) = kz then rnF tp kz r (pz + 1) else pz
def tkF (tp : Nat → Nat) (n bz : Nat) : Nat := skF tp (n - bz) bz
def tkB (tp : Nat → Nat) (n fz : Nat) : Nat := if fz < n then (if kc (tp fz) = 3 then fz + 1 else rnF tp (kc (tp fz)) (n - (fz + 1)) (fz + 1)) else n
abbrev Tk : Type := Nat × Nat × Nat
def tok (tp : Nat → Nat) (n : Nat) (tk : Tk) : Tk := (if (tk.1 = 1 ∨ tk.1 = 2) ∧ (sA tp n (tkF tp n tk.2.2) = 1 ∨ sA tp n (tkF tp n tk.2.2) = 2) ∧ tkF tp n tk.2.2 = tk.2.2 then 4 else sA tp n (tkF tp n tk.2.2), tkF tp n tk.2.2, tkB tp n (tkF tp n tk.2.2))
theorem kc_r (bz : Nat) : kc bz = 1 ∨ kc bz = 2 ∨ kc bz = 3 := by
  unfold kc
  split
  · exact Or.inl rfl
  · split
    · exact Or.inr (Or.inl rfl)
    · exact Or.inr (Or.inr rfl)
theorem sA_r (tp : Nat → Nat) (n pz : Nat) : sA tp n pz ≤ 3 := by
  unfold sA
  split
  · rcases kc_r (tp pz) with h | h | h <;> omega
  · omega
theorem skF_b {tp : Nat → Nat} : ∀ r pz, pz ≤ skF tp r pz ∧ skF tp r pz ≤ pz + r := by
  intro r
  induction r with
  | zero => intro pz; exact ⟨Nat.le_refl _, Nat.le_refl _⟩
  | succ r ih =>
    intro pz
    unfold skF
    split
    · have := ih (pz + 1); omega
    · omega
theorem rnF_b {tp : Nat → Nat} {kz : Nat} : ∀ r pz, pz ≤ rnF tp kz r pz ∧ rnF tp kz r pz ≤ pz + r := by
  intro r
  induction r with
  | zero => intro pz; exact ⟨Nat.le_refl _, Nat.le_refl _⟩
  | succ r ih =>
    intro pz
    unfold rnF
    split
    · have := ih (pz + 1); omega
    · omega
theorem tkF_b {tp : Nat → Nat} {n bz : Nat} (h : bz ≤ n) : bz ≤ tkF tp n bz ∧ tkF tp n bz ≤ n := by
  have := skF_b (tp := tp) (n - bz) bz
  unfold tkF
  omega
theorem tkB_b {tp : Nat → Nat} {n fz : Nat} (h : fz ≤ n) : fz ≤ tkB tp n fz ∧ tkB tp n fz ≤ n ∧ (fz < n → fz < tkB tp n fz) := by
  unfold tkB
  split
  · split
    · omega
    · have := rnF_b (tp := tp) (kz := kc (tp fz)) (n - (fz + 1)) (fz + 1)
      omega
  · omega
theorem s8_cmp : ∀ bz, bz < 256 → (((nI bz).toInt8.toInt32 < nI 97 ↔ bz < 97 ∨ 128 ≤ bz) ∧ (nI 122 < (nI bz).toInt8.toInt32 ↔ 122 < bz ∧ bz < 128) ∧ ((nI bz).toInt8.toInt32 < nI 48 ↔ bz < 48 ∨ 128 ≤ bz) ∧ (nI 57 < (nI bz).toInt8.toInt32 ↔ 57 < bz ∧ bz < 128)) := by decide +kernel
theorem s8_eq : ∀ bz, bz < 256 → ∀ cz, cz < 128 → ((nI bz).toInt8.toInt32 = nI cz ↔ bz = cz) := by decide +kernel
/-- the class's tape -/
def TP (σ : Nat → Nat → Int32) (n : Nat) (tp : Nat → Nat) : Prop := n ≤ 96 ∧ σ 34 1 = nI n ∧ ∀ i, i < n → tp i < 256 ∧ σ 35 i = (nI (tp i)).toInt8.toInt32
/-- what is at hand -/
def CT (σ : Nat → Nat → Int32) (tk : Tk) : Prop := σ 34 2 = nI tk.1 ∧ σ 34 3 = nI tk.2.1 ∧ σ 34 4 = nI tk.2.2
section Tok
variable {E : aE} {d n : Nat} {tp : Nat → Nat} {σ : Nat → Nat → Int32}
theorem TP.ext {σ1 : Nat → Nat → Int32} (h : TP σ n tp) (h1 : σ1 34 1 = σ 34 1) (h2 : σ1 35 = σ 35) : TP σ1 n tp := by
  unfold TP
  rw [h1, h2]
  exact h
theorem c_sortAt {pz : Nat} (hT : TP σ n tp) (hp : pz ≤ 96) : Rn E d 11 0 [some (.ref 34), some (.int (nI pz)), none] [] (shp, σ) = some (some (.int (nI (sA tp n pz))), (shp, σ)) := by
  obtain ⟨h96, e1, e2⟩ := hT
  by_cases h1 : pz < n
  · obtain ⟨hb, eb⟩ := e2 pz h1
    obtain ⟨q1, q2, q3, q4⟩ := s8_cmp (tp pz) hb
    have hlt : nI pz < nI n := nI_lt h1 (by omega)
    have hs : sA tp n pz = kc (tp pz) := by unfold sA; rw [if_pos h1]
    rw [hs]
    simp (disch := omega) only [e11_0, e11_1, e11_2, e11_5, e11_8, e11_9, e11_10, e11_11, e11_14, e11_15, e11_16, e11_17, e11_18, e11_20, e11_23, e11_24, e11_26, e11_29, e11_30, e11_33, e11_34, e11_36, e11_39, e11_40, e11_42, e11_45, e11_46, e11_49, e11_50, ↓reduceIte, inb_n, ix_n, if_true, ne_eq, Nat.reduceEqDiff, not_false_eq_true, clK_s, tl_s, tl_n, clr_i, clr_n, clr_a, nI_add, gR_0, gR_1, e1, hlt, b_35, eb, q1, q2, q3, q4]
    unfold kc
    by_cases a1 : tp pz < 97 ∨ 128 ≤ tp pz
    · rw [if_pos a1, if_neg (show ¬ (97 ≤ tp pz ∧ tp pz ≤ 122) by omega)]
      by_cases a3 : tp pz < 48 ∨ 128 ≤ tp pz
      · rw [if_pos a3, if_neg (by omega)]
      · rw [if_neg a3]
        by_cases a4 : 57 < tp pz ∧ tp pz < 128
        · rw [if_pos a4, if_neg (by omega)]
        · rw [if_neg a4, if_pos (by omega)]
    · rw [if_neg a1]
      by_cases a2 : 122 < tp pz ∧ tp pz < 128
      · rw [if_pos a2, if_neg (show ¬ (97 ≤ tp pz ∧ tp pz ≤ 122) by omega)]
        rw [if_neg (show ¬ (tp pz < 48 ∨ 128 ≤ tp pz) by omega), if_pos (show 57 < tp pz ∧ tp pz < 128 by omega), if_neg (by omega)]
      · rw [if_neg a2, if_pos (show 97 ≤ tp pz ∧ tp pz ≤ 122 by omega)]
  · have hlt : ¬ nI pz < nI n := nI_nlt (by omega) (by omega)
    have hs : sA tp n pz = 0 := by unfold sA; rw [if_neg h1]
    rw [hs]
    simp (disch := omega) only [e11_0, e11_1, e11_2, e11_5, e11_8, e11_9, e11_10, e11_11, e11_14, e11_15, e11_16, e11_17, e11_18, e11_20, e11_23, e11_24, e11_26, e11_29, e11_30, e11_33, e11_34, e11_36, e11_39, e11_40, e11_42, e11_45, e11_46, e11_49, e11_50, ↓reduceIte, inb_n, ix_n, if_true, ne_eq, Nat.reduceEqDiff, not_false_eq_true, clK_s, tl_s, tl_n, clr_i, clr_n, clr_a, nI_add, gR_1, e1, hlt]
theorem c_next_1 {w1 w2 w3 : Option Value} (hT : TP σ n tp) : ∀ r pz (σ1 : Nat → Nat → Int32), pz + r = n → Fr [34] σ σ1 → (∀ i, i ≠ 3 → σ1 34 i = σ 34 i) → σ1 34 3 = nI pz →
    ∃ σ2, Rn E d 10 32 [some (.ref 34), w1, w2, w3] [] (shp, σ1) = Rn E d 10 70 [some (.ref 34), w1, w2, w3] [] (shp, σ2) ∧ Fr [34] σ σ2 ∧ (∀ i, i ≠ 3 → σ2 34 i = σ 34 i) ∧ σ2 34 3 = nI (skF tp r pz) := by
  obtain ⟨h96, e1, e2⟩ := hT
  intro r
  induction r with
  | zero =>
    intro pz σ1 hp hf ho h3
    have h1 : n ≤ pz := by omega
    have e1' : σ1 34 1 = nI n := by rw [ho 1 (by omega)]; exact e1
    refine ⟨σ1, ?_, hf, ho, h3⟩
    rw [e10_32]
    simp (disch := omega) only [e10_33, e10_36, e10_37, e10_40, ↓reduceIte, inb_n, ix_n, if_true, ne_eq, Nat.reduceEqDiff, not_false_eq_true, clK_s, tl_s, tl_n, clr_i, clr_n, clr_a, nI_add, gR_1, gR_3, h3, e1', nI_leI, h1]
  | succ r ih =>
    intro pz σ1 hp hf ho h3
    have h1 : ¬ n ≤ pz := by omega
    have e1' : σ1 34 1 = nI n := by rw [ho 1 (by omega)]; exact e1
    obtain ⟨hb, eb⟩ := e2 pz (by omega)
    have eb' : σ1 35 pz = (nI (tp pz)).toInt8.toInt32 := by rw [hf 35 (by decide)]; exact eb
    have q := s8_eq (tp pz) hb 32 (by omega)
    unfold skF
    by_cases h32 : tp pz = 32
    · obtain ⟨σ2, g1, g2⟩ := ih (pz + 1) (su σ1 34 3 (nI (pz + 1))) (by omega) (hf.su (by decide)) (fun i hi => by rw [su_rf, pk_un hi]; exact ho i hi) (by rw [su_rf, pk_us])
      rw [if_pos h32]
      refine ⟨σ2, ?_, g2⟩
      rw [← g1]
      conv => lhs; rw [e10_32]
      simp (disch := omega) only [e10_33, e10_36, e10_37, e10_40, e10_43, e10_44, e10_47, e10_48, e10_51, e10_52, e10_54, e10_57, e10_58, e10_59, e10_62, e10_63, e10_64, e10_67, ↓reduceIte, inb_n, ix_n, if_true, ne_eq, Nat.reduceEqDiff, not_false_eq_true, clK_s, tl_s, tl_n, clr_i, clr_n, clr_a, nI_add, gR_0, gR_1, gR_3, pR_3, h3, e1', nI_leI, h1, b_35, eb', q.mpr h32, not_true_eq_false]
    · rw [if_neg h32]
      refine ⟨σ1, ?_, hf, ho, h3⟩
      rw [e10_32]
      simp (disch := omega) only [e10_33, e10_36, e10_37, e10_40, e10_43, e10_44, e10_47, e10_48, e10_51, e10_52, e10_54, ↓reduceIte, inb_n, ix_n, if_true, ne_eq, Nat.reduceEqDiff, not_false_eq_true, clK_s, tl_s, tl_n, clr_i, clr_n, clr_a, nI_add, gR_0, gR_1, gR_3, h3, e1', nI_leI, h1, b_35, eb', q, h32]
theorem c_next_2 {w1 w2 : Option Value} {kz : Nat} (hT : TP σ n tp) (hk : kz = 1 ∨ kz = 2) : ∀ r pz (σ1 : Nat → Nat → Int32), pz + r = n → Fr [34] σ σ1 → (∀ i, i ≠ 4 → σ1 34 i = σ 34 i) → σ 34 2 = nI kz → σ1 34 4 = nI pz →
    ∃ σ2, Rn E (d + 1) 10 121 [some (.ref 34), w1, w2, some (.int (nI 1))] [] (shp, σ1) = Rn E (d + 1) 10 164 [some (.ref 34), w1, w2, some (.int (nI 1))] [] (shp, σ2) ∧ Fr [34] σ σ2 ∧ (∀ i, i ≠ 4 → σ2 34 i = σ 34 i) ∧ σ2 34 4 = nI (rnF tp kz r pz) := by
  have h96 := hT.1
  intro r
  induction r with
  | zero =>
    intro pz σ1 hp hf ho h2 h4
    have h1 : n ≤ pz := by omega
    have e1' : σ1 34 1 = nI n := by rw [ho 1 (by omega)]; exact hT.2.1
    refine ⟨σ1, ?_, hf, ho, h4⟩
    rw [e10_121]
    simp (disch := omega) only [e10_122, e10_125, e10_126, e10_129, e10_130, e10_133, ↓reduceIte, inb_n, ix_n, if_true, ne_eq, Nat.reduceEqDiff, not_false_eq_true, clK_s, tl_s, tl_n, clr_i, clr_n, clr_a, nI_add, n10, gR_1, gR_4, h4, e1', nI_leI, h1]
  | succ r ih =>
    intro pz σ1 hp hf ho h2 h4
    have h1 : ¬ n ≤ pz := by omega
    have e1' : σ1 34 1 = nI n := by rw [ho 1 (by omega)]; exact hT.2.1
    have e2' : σ1 34 2 = nI kz := by rw [ho 2 (by omega)]; exact h2
    have hT1 : TP σ1 n tp := hT.ext (ho 1 (by omega)) (hf 35 (by decide))
    have hs : sA tp n pz = kc (tp pz) := by unfold sA; rw [if_pos (by omega)]
    have hkc : kc (tp pz) ≤ 3 := by rcases kc_r (tp pz) with h | h | h <;> omega
    unfold rnF
    by_cases hq : kc (tp pz) = kz
    · obtain ⟨σ2, g1, g2⟩ := ih (pz + 1) (su σ1 34 4 (nI (pz + 1))) (by omega) (hf.su (by decide)) (fun i hi => by rw [su_rf, pk_un hi]; exact ho i hi) h2 (by rw [su_rf, pk_us])
      rw [if_pos hq]
      refine ⟨σ2, ?_, g2⟩
      rw [← g1]
      conv => lhs; rw [e10_121]
      simp (disch := omega) only [e10_122, e10_125, e10_126, e10_129, e10_130, e10_133, e10_136, e10_137, e10_138, e10_141, e10_144, e10_145, e10_148, e10_151, e10_152, e10_153, e10_156, e10_157, e10_158, e10_161, ↓reduceIte, inb_n, ix_n, if_true, ne_eq, Nat.reduceEqDiff, not_false_eq_true, clK_s, tl_s, tl_n, clr_i, clr_n, clr_a, nI_add, n10, gR_1, gR_2, gR_4, pR_4, vR, h4, e1', e2', nI_leI, h1, c_sortAt hT1 (show pz ≤ 96 by omega), hs, hq, not_true_eq_false]
    · have hq' : ¬ nI (kc (tp pz)) = nI kz := fun z => hq ((nI_eq (by omega) (by omega)).mp z)
      rw [if_neg hq]
      refine ⟨σ1, ?_, hf, ho, h4⟩
      rw [e10_121]
      simp (disch := omega) only [e10_122, e10_125, e10_126, e10_129, e10_130, e10_133, e10_136, e10_137, e10_138, e10_141, e10_144, e10_145, e10_148, ↓reduceIte, inb_n, ix_n, if_true, ne_eq, Nat.reduceEqDiff, not_false_eq_true, clK_s, tl_s, tl_n, clr_i, clr_n, clr_a, nI_add, n10, gR_1, gR_2, gR_4, vR, h4, e1', e2', nI_leI, h1, c_sortAt hT1 (show pz ≤ 96 by omega), hs, hq']
theorem c_next {tk : Tk} (hT : TP σ n tp) (k1 : σ 34 2 = nI tk.1) (k3 : σ 34 4 = nI tk.2.2) (hb : tk.2.2 ≤ n) (hk4 : tk.1 ≤ 4) : ∃ σ2, Rn E (d + 1) 10 0 [some (.ref 34), none, none, none] [] (shp, σ) = some (none, (shp, σ2)) ∧ Fr [34] σ σ2 ∧ (∀ i, i ≠ 2 → i ≠ 3 → i ≠ 4 → σ2 34 i = σ 34 i) ∧ CT σ2 (tok tp n tk) := by
  have h96 := hT.1
  obtain ⟨f1, f2⟩ := tkF_b (tp := tp) hb
  have hww : ∀ b : Bool, Rn E (d + 1) 10 21 [some (.ref 34), none, none, none] [.int (bI b)] (shp, σ) = Rn E (d + 1) 10 32 [some (.ref 34), some (.int (bI b)), some (.int (nI tk.2.2)), none] [] (shp, su σ 34 3 (nI tk.2.2)) := by
    intro b
    simp (disch := omega) only [e10_21, e10_22, e10_23, e10_26, e10_27, e10_28, e10_29, ↓reduceIte, inb_n, ix_n, if_true, ne_eq, Nat.reduceEqDiff, not_false_eq_true, clK_s, tl_s, tl_n, clr_i, clr_n, clr_a, nI_add, gR_4, pR_3, k3]
  have hw0 : Rn E (d + 1) 10 0 [some (.ref 34), none, none, none] [] (shp, σ) = Rn E (d + 1) 10 21 [some (.ref 34), none, none, none] [.int (bI (decide (tk.1 = 1 ∨ tk.1 = 2)))] (shp, σ) := by
    by_cases a1 : tk.1 = 1
    · rw [decide_eq_true (Or.inl a1), bI_t]
      rw [a1] at k1
      simp (disch := omega) only [e10_0, e10_1, e10_4, e10_5, e10_8, e10_9, e10_12, e10_13, e10_16, e10_17, e10_20, ↓reduceIte, inb_n, ix_n, if_true, ne_eq, Nat.reduceEqDiff, not_false_eq_true, clK_s, tl_s, tl_n, clr_i, clr_n, clr_a, nI_add, gR_2, k1]
    · have a1' : ¬ nI tk.1 = nI 1 := fun z => a1 ((nI_eq (by omega) (by omega)).mp z)
      by_cases a2 : tk.1 = 2
      · rw [decide_eq_true (Or.inr a2), bI_t]
        rw [a2] at k1 a1'
        simp (disch := omega) only [e10_0, e10_1, e10_4, e10_5, e10_8, e10_9, e10_12, e10_13, e10_16, e10_17, e10_20, ↓reduceIte, inb_n, ix_n, if_true, ne_eq, Nat.reduceEqDiff, not_false_eq_true, clK_s, tl_s, tl_n, clr_i, clr_n, clr_a, nI_add, gR_2, k1, a1', not_true_eq_false]
      · have a2' : ¬ nI tk.1 = nI 2 := fun z => a2 ((nI_eq (by omega) (by omega)).mp z)
        rw [decide_eq_false (by omega), bI_f]
        simp (disch := omega) only [e10_0, e10_1, e10_4, e10_5, e10_8, e10_9, e10_12, e10_13, e10_16, e10_17, e10_20, ↓reduceIte, inb_n, ix_n, if_true, ne_eq, Nat.reduceEqDiff, not_false_eq_true, clK_s, tl_s, tl_n, clr_i, clr_n, clr_a, nI_add, gR_2, k1, a1', a2']
  rw [hw0, hww]
  have hT1 : TP (su σ 34 3 (nI tk.2.2)) n tp := hT.ext (by rw [su_rf, pk_un (by omega)]) (su_row (by decide))
  obtain ⟨σ2, s1, s2, s3, s4⟩ := c_next_1 (E := E) (d := d + 1) (w1 := some (.int (bI (decide (tk.1 = 1 ∨ tk.1 = 2))))) (w2 := some (.int (nI tk.2.2))) (w3 := none) hT1 (n - tk.2.2) tk.2.2 _ (by omega) Fr.rf (fun _ _ => rfl) (by rw [su_rf, pk_us])
  have s4 : σ2 34 3 = nI (tkF tp n tk.2.2) := s4
  rw [s1]
  have hT2 : TP σ2 n tp := hT1.ext (s3 1 (by omega)) (s2 35 (by decide))
  have e1 := hT2.2.1
  have fr2 : Fr [34] σ σ2 := (Fr.rf.su (by decide)).tr s2
  have o2 : ∀ i, i ≠ 3 → σ2 34 i = σ 34 i := fun i hi => by rw [s3 i hi, su_rf, pk_un hi]
  have hsr := sA_r tp n (tkF tp n tk.2.2)
  -- sort and beyond
  have hmin : imin (nI (tkF tp n tk.2.2 + 1)) (nI n) = nI (min (tkF tp n tk.2.2 + 1) n) := by
    unfold imin
    by_cases hq : n < tkF tp n tk.2.2 + 1
    · rw [if_pos (nI_lt hq (by omega)), Nat.min_eq_right (by omega)]
    · rw [if_neg (nI_nlt (by omega) (by omega)), Nat.min_eq_left (by omega)]
  have y3 : su σ2 34 2 (nI (sA tp n (tkF tp n tk.2.2))) 34 3 = nI (tkF tp n tk.2.2) := by rw [su_rf, pk_un (by omega)]; exact s4
  have y1 : su σ2 34 2 (nI (sA tp n (tkF tp n tk.2.2))) 34 1 = nI n := by rw [su_rf, pk_un (by omega)]; exact e1
  have z2 : su (su σ2 34 2 (nI (sA tp n (tkF tp n tk.2.2)))) 34 4 (nI (min (tkF tp n tk.2.2 + 1) n)) 34 2 = nI (sA tp n (tkF tp n tk.2.2)) := by rw [su_rf, pk_un (by omega), su_rf, pk_us]
  have hmid : Rn E (d + 1) 10 70 [some (.ref 34), some (.int (bI (decide (tk.1 = 1 ∨ tk.1 = 2)))), some (.int (nI tk.2.2)), none] [] (shp, σ2) = Rn E (d + 1) 10 99 [some (.ref 34), some (.int (bI (decide (tk.1 = 1 ∨ tk.1 = 2)))), some (.int (nI tk.2.2)), none] [] (shp, su (su σ2 34 2 (nI (sA tp n (tkF tp n tk.2.2)))) 34 4 (nI (min (tkF tp n tk.2.2 + 1) n))) := by
    simp (disch := omega) only [e10_70, e10_71, e10_72, e10_73, e10_76, e10_79, e10_82, e10_83, e10_84, e10_87, e10_88, e10_89, e10_90, e10_93, e10_96, ↓reduceIte, inb_n, ix_n, if_true, ne_eq, Nat.reduceEqDiff, not_false_eq_true, clK_s, tl_s, tl_n, clr_i, clr_n, clr_a, nI_add, gR_1, gR_3, pR_2, pR_4, vR, s4, c_sortAt hT2 (show tkF tp n tk.2.2 ≤ 96 by omega), y3, y1, hmin]
  rw [hmid]
  have hrest : ∀ (σ3 : Nat → Nat → Int32) (iw : Bool) (bz : Nat), Fr [34] σ σ3 → (∀ i, i ≠ 2 → i ≠ 3 → i ≠ 4 → σ3 34 i = σ 34 i) → σ3 34 2 = nI (sA tp n (tkF tp n tk.2.2)) → σ3 34 3 = nI (tkF tp n tk.2.2) → σ3 34 4 = nI bz → bz = tkB tp n (tkF tp n tk.2.2) → iw = decide (sA tp n (tkF tp n tk.2.2) = 1 ∨ sA tp n (tkF tp n tk.2.2) = 2) → ∃ σ4, Rn E (d + 1) 10 164 [some (.ref 34), some (.int (bI (decide (tk.1 = 1 ∨ tk.1 = 2)))), some (.int (nI tk.2.2)), some (.int (bI iw))] [] (shp, σ3) = some (none, (shp, σ4)) ∧ Fr [34] σ σ4 ∧ (∀ i, i ≠ 2 → i ≠ 3 → i ≠ 4 → σ4 34 i = σ 34 i) ∧ CT σ4 (tok tp n tk) := by
    intro σ3 iw bz r1 r2 r3 r4 r5 r6 r7
    by_cases c1 : tk.1 = 1 ∨ tk.1 = 2
    · by_cases c2 : sA tp n (tkF tp n tk.2.2) = 1 ∨ sA tp n (tkF tp n tk.2.2) = 2
      · have hiw : iw = true := by rw [r7]; exact decide_eq_true c2
        by_cases c3 : tkF tp n tk.2.2 = tk.2.2
        · refine ⟨su σ3 34 2 (nI 4), ?_, r1.su (by decide), fun i h1 h2 h3 => by rw [su_rf, pk_un h1]; exact r2 i h1 h2 h3, ?_, ?_, ?_⟩
          · have c3' : nI (tkF tp n tk.2.2) = nI tk.2.2 := by rw [c3]
            rw [decide_eq_true c1, hiw]
            simp (disch := omega) only [e10_164, e10_165, e10_168, e10_169, e10_172, e10_173, e10_176, ↓reduceIte, inb_n, ix_n, if_true, ne_eq, Nat.reduceEqDiff, not_false_eq_true, clK_s, tl_s, tl_n, clr_i, clr_n, clr_a, nI_add, bI_0, Bool.true_eq_false, Bool.false_eq_true, not_true_eq_false, not_false_eq_true, if_false, reduceCtorEq, gR_3, r4]
            rw [e10_177, if_neg (fun z => z c3')]
            simp (disch := omega) only [e10_180, e10_181, e10_182, e10_185, ↓reduceIte, inb_n, ix_n, if_true, ne_eq, Nat.reduceEqDiff, not_false_eq_true, clK_s, tl_s, tl_n, clr_i, clr_n, clr_a, nI_add, pR_2]
          · rw [su_rf, pk_us]
            unfold tok
            rw [if_pos ⟨c1, c2, c3⟩]
          · rw [su_rf, pk_un (by omega)]; exact r4
          · rw [su_rf, pk_un (by omega), r5, r6]; rfl
        · have c3' : ¬ nI (tkF tp n tk.2.2) = nI tk.2.2 := fun z => c3 ((nI_eq (by omega) (by omega)).mp z)
          refine ⟨σ3, ?_, r1, r2, ?_, r4, by rw [r5, r6]; rfl⟩
          · rw [decide_eq_true c1, hiw]
            simp (disch := omega) only [e10_164, e10_165, e10_168, e10_169, e10_172, e10_173, e10_176, e10_177, e10_180, e10_181, e10_182, e10_185, ↓reduceIte, inb_n, ix_n, if_true, ne_eq, Nat.reduceEqDiff, not_false_eq_true, clK_s, tl_s, tl_n, clr_i, clr_n, clr_a, nI_add, bI_0, Bool.true_eq_false, Bool.false_eq_true, not_true_eq_false, not_false_eq_true, if_false, reduceCtorEq, gR_3, r4, c3']
          · rw [r3]
            unfold tok
            rw [if_neg (fun z => c3 z.2.2)]
      · have hiw : iw = false := by rw [r7]; exact decide_eq_false c2
        refine ⟨σ3, ?_, r1, r2, ?_, r4, by rw [r5, r6]; rfl⟩
        · rw [decide_eq_true c1, hiw]
          simp (disch := omega) only [e10_164, e10_165, e10_168, e10_169, e10_172, e10_173, e10_176, e10_177, e10_180, e10_181, e10_182, e10_185, ↓reduceIte, inb_n, ix_n, if_true, ne_eq, Nat.reduceEqDiff, not_false_eq_true, clK_s, tl_s, tl_n, clr_i, clr_n, clr_a, nI_add, bI_0, Bool.true_eq_false, Bool.false_eq_true, not_true_eq_false, not_false_eq_true, if_false, reduceCtorEq]
        · rw [r3]
          unfold tok
          rw [if_neg (fun z => c2 z.2.1)]
    · refine ⟨σ3, ?_, r1, r2, ?_, r4, by rw [r5, r6]; rfl⟩
      · rw [decide_eq_false c1]
        simp (disch := omega) only [e10_164, e10_165, e10_168, e10_169, e10_172, e10_173, e10_176, e10_177, e10_180, e10_181, e10_182, e10_185, ↓reduceIte, inb_n, ix_n, if_true, ne_eq, Nat.reduceEqDiff, not_false_eq_true, clK_s, tl_s, tl_n, clr_i, clr_n, clr_a, nI_add, bI_0, Bool.true_eq_false, Bool.false_eq_true, not_true_eq_false, not_false_eq_true, if_false, reduceCtorEq]
      · rw [r3]
        unfold tok
        rw [if_neg (fun z => c1 z.1)]
  have frm : Fr [34] σ (su (su σ2 34 2 (nI (sA tp n (tkF tp n tk.2.2)))) 34 4 (nI (min (tkF tp n tk.2.2 + 1) n))) := (fr2.su (by decide)).su (by decide)
  have om : ∀ i, i ≠ 2 → i ≠ 3 → i ≠ 4 → su (su σ2 34 2 (nI (sA tp n (tkF tp n tk.2.2)))) 34 4 (nI (min (tkF tp n tk.2.2 + 1) n)) 34 i = σ 34 i := fun i h1 h2 h3 => by rw [su_rf, pk_un h3, su_rf, pk_un h1, o2 i h2]
  have x3 : su (su σ2 34 2 (nI (sA tp n (tkF tp n tk.2.2)))) 34 4 (nI (min (tkF tp n tk.2.2 + 1) n)) 34 3 = nI (tkF tp n tk.2.2) := by rw [su_rf, pk_un (by omega)]; exact y3
  have x4 : su (su σ2 34 2 (nI (sA tp n (tkF tp n tk.2.2)))) 34 4 (nI (min (tkF tp n tk.2.2 + 1) n)) 34 4 = nI (min (tkF tp n tk.2.2 + 1) n) := by rw [su_rf, pk_us]
  by_cases c2 : sA tp n (tkF tp n tk.2.2) = 1 ∨ sA tp n (tkF tp n tk.2.2) = 2
  · have hlt : tkF tp n tk.2.2 < n := by
      rcases Nat.lt_or_ge (tkF tp n tk.2.2) n with h | h
      · exact h
      · exfalso
        have : sA tp n (tkF tp n tk.2.2) = 0 := by unfold sA; rw [if_neg (by omega)]
        omega
    have hsk : sA tp n (tkF tp n tk.2.2) = kc (tp (tkF tp n tk.2.2)) := by unfold sA; rw [if_pos hlt]
    have hT4 : TP (su (su σ2 34 2 (nI (sA tp n (tkF tp n tk.2.2)))) 34 4 (nI (min (tkF tp n tk.2.2 + 1) n))) n tp := hT2.ext (by rw [su_rf, pk_un (by omega), su_rf, pk_un (by omega)]) (by rw [su_row (by decide), su_row (by decide)])
    have hm : min (tkF tp n tk.2.2 + 1) n = tkF tp n tk.2.2 + 1 := by omega
    have hgo : Rn E (d + 1) 10 99 [some (.ref 34), some (.int (bI (decide (tk.1 = 1 ∨ tk.1 = 2)))), some (.int (nI tk.2.2)), none] [] (shp, su (su σ2 34 2 (nI (sA tp n (tkF tp n tk.2.2)))) 34 4 (nI (min (tkF tp n tk.2.2 + 1) n))) = Rn E (d + 1) 10 121 [some (.ref 34), some (.int (bI (decide (tk.1 = 1 ∨ tk.1 = 2)))), some (.int (nI tk.2.2)), some (.int (nI 1))] [] (shp, su (su σ2 34 2 (nI (sA tp n (tkF tp n tk.2.2)))) 34 4 (nI (min (tkF tp n tk.2.2 + 1) n))) := by
      rcases c2 with c2 | c2
      · rw [c2] at z2 ⊢
        simp (disch := omega) only [e10_99, e10_100, e10_103, e10_104, e10_107, e10_108, e10_111, e10_112, e10_115, e10_116, e10_119, e10_120, ↓reduceIte, inb_n, ix_n, if_true, ne_eq, Nat.reduceEqDiff, not_false_eq_true, clK_s, tl_s, tl_n, clr_i, clr_n, clr_a, nI_add, gR_2, z2]
      · rw [c2] at z2 ⊢
        have z21 : ¬ nI 2 = nI 1 := by decide +kernel
        simp (disch := omega) only [e10_99, e10_100, e10_103, e10_104, e10_107, e10_108, e10_111, e10_112, e10_115, e10_116, e10_119, e10_120, ↓reduceIte, inb_n, ix_n, if_true, ne_eq, Nat.reduceEqDiff, not_false_eq_true, clK_s, tl_s, tl_n, clr_i, clr_n, clr_a, nI_add, gR_2, z2, z21, not_true_eq_false]
    rw [hgo]
    obtain ⟨σ3, g1, g2, g3, g4⟩ := c_next_2 (E := E) (d := d) (w1 := some (.int (bI (decide (tk.1 = 1 ∨ tk.1 = 2))))) (w2 := some (.int (nI tk.2.2))) (kz := sA tp n (tkF tp n tk.2.2)) hT4 c2 (n - (tkF tp n tk.2.2 + 1)) (tkF tp n tk.2.2 + 1) _ (by omega) Fr.rf (fun _ _ => rfl) z2 (by rw [x4, hm])
    rw [g1]
    have hiw : bI true = nI 1 := rfl
    rw [← hiw]
    refine hrest σ3 true _ (frm.tr g2) (fun i h1 h2 h3 => by rw [g3 i h3]; exact om i h1 h2 h3) (by rw [g3 2 (by omega)]; exact z2) (by rw [g3 3 (by omega)]; exact x3) g4 ?_ (decide_eq_true c2).symm
    unfold tkB
    rw [if_pos hlt, hsk, if_neg (by omega)]
  · have c2a : ¬ sA tp n (tkF tp n tk.2.2) = 1 := fun z => c2 (Or.inl z)
    have c2b : ¬ sA tp n (tkF tp n tk.2.2) = 2 := fun z => c2 (Or.inr z)
    have c2a' : ¬ nI (sA tp n (tkF tp n tk.2.2)) = nI 1 := fun z => c2a ((nI_eq (by omega) (by omega)).mp z)
    have c2b' : ¬ nI (sA tp n (tkF tp n tk.2.2)) = nI 2 := fun z => c2b ((nI_eq (by omega) (by omega)).mp z)
    have hgo : Rn E (d + 1) 10 99 [some (.ref 34), some (.int (bI (decide (tk.1 = 1 ∨ tk.1 = 2)))), some (.int (nI tk.2.2)), none] [] (shp, su (su σ2 34 2 (nI (sA tp n (tkF tp n tk.2.2)))) 34 4 (nI (min (tkF tp n tk.2.2 + 1) n))) = Rn E (d + 1) 10 164 [some (.ref 34), some (.int (bI (decide (tk.1 = 1 ∨ tk.1 = 2)))), some (.int (nI tk.2.2)), some (.int (bI false))] [] (shp, su (su σ2 34 2 (nI (sA tp n (tkF tp n tk.2.2)))) 34 4 (nI (min (tkF tp n tk.2.2 + 1) n))) := by
      simp (disch := omega) only [e10_99, e10_100, e10_103, e10_104, e10_107, e10_108, e10_111, e10_112, e10_115, e10_116, e10_119, e10_120, e10_121, e10_122, ↓reduceIte, inb_n, ix_n, if_true, ne_eq, Nat.reduceEqDiff, not_false_eq_true, clK_s, tl_s, tl_n, clr_i, clr_n, clr_a, nI_add, gR_2, z2, c2a', c2b', bI_f]
    rw [hgo]
    refine hrest _ false _ frm om z2 x3 x4 ?_ (decide_eq_false c2).symm
    unfold tkB
    by_cases hlt : tkF tp n tk.2.2 < n
    · have hsk : sA tp n (tkF tp n tk.2.2) = kc (tp (tkF tp n tk.2.2)) := by unfold sA; rw [if_pos hlt]
      rw [hsk] at c2a c2b
      have h3 : kc (tp (tkF tp n tk.2.2)) = 3 := by
        rcases kc_r (tp (tkF tp n tk.2.2)) with h | h | h
        · exact absurd h c2a
        · exact absurd h c2b
        · exact h
      rw [if_pos hlt, if_pos h3]
      omega
    · rw [if_neg hlt]
      omega
end Tok
