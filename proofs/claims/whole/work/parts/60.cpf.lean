/-! THE CLASS READS -/
def CS (σ : Nat → Nat → Int32) (h n key : Nat) (tp : Nat → Nat) (nt dp : Nat) (s : PS) : Prop := TP σ n tp ∧ CT σ s.1 ∧ σ 34 5 = (-1) ∧ σ 34 7 = nI nt ∧ σ 34 6 = nI dp ∧ σ h 1 = nI s.2.1.length ∧ σ h 2 = nI key ∧ σ h 3 = nI s.2.2 ∧ ∀ i w xv, s.2.1[i]? = some (w, xv) → σ (h + 1) i = kodP key (w, xv)
def CFl (σ : Nat → Nat → Int32) (h n key : Nat) (tp : Nat → Nat) (pz : Nat) : Prop := TP σ n tp ∧ σ 34 5 = nI pz ∧ σ 34 2 = nI 4 ∧ σ h 2 = nI key ∧ ∃ l, l ≤ 96 ∧ σ h 1 = nI l
def CO (σ : Nat → Nat → Int32) (h n key : Nat) (tp : Nat → Nat) (nt dp : Nat) (r : Nat ⊕ PS) : Prop := match r with
  | .inl pz => CFl σ h n key tp pz
  | .inr s => CS σ h n key tp nt dp s
def pN (nt dp : Nat) : Nat := 5 + 8 * (8 - dp) + (8 - nt)
section Cpf
variable {E : aE} {D n key nt dp : Nat} {tp : Nat → Nat} {σ : Nat → Nat → Int32} {s : PS} {h : Nat}
theorem isW_b (hh : isW h) : 4 ≤ h ∧ h ≤ 32 := by
  unfold isW at hh
  omega
theorem ad_row {pp : Nat × Int32} {l : List (Nat × Int32)} {rw0 : Nat → Int32} {cv : Int32} (h0 : ∀ i w xv, l[i]? = some (w, xv) → rw0 i = kodP key (w, xv)) (hc : cv = kodP key pp) : ∀ i w xv, (l ++ [pp])[i]? = some (w, xv) → upd rw0 l.length cv i = kodP key (w, xv) := by
  intro i w xv hg
  rcases Nat.lt_trichotomy i l.length with hq | hq | hq
  · rw [List.getElem?_append_left hq] at hg
    rw [pk_un (by omega)]
    exact h0 i w xv hg
  · subst hq
    rw [List.getElem?_append_right (Nat.le_refl _), Nat.sub_self] at hg
    have : pp = (w, xv) := Option.some.inj hg
    rw [pk_us, hc, this]
  · rw [List.getElem?_eq_none (by rw [List.length_append]; show l.length + 1 ≤ i; omega)] at hg
    cases hg
theorem CS.ad {pp : Nat × Int32} {cv : Int32} (hh : isW h) (hS : CS σ h n key tp nt dp s) (hc : cv = kodP key pp) : CS (su (su σ (h + 1) s.2.1.length cv) h 1 (nI (s.2.1.length + 1))) h n key tp nt dp (adS pp s) := by
  obtain ⟨b1, b2⟩ := isW_b hh
  obtain ⟨s1, s2, s3, s4, s5, s6, s7, s8, s9⟩ := hS
  have e : ∀ a, a ≠ h → a ≠ h + 1 → su (su σ (h + 1) s.2.1.length cv) h 1 (nI (s.2.1.length + 1)) a = σ a := fun a h1 h2 => by rw [su_row h1, su_row h2]
  have e34 := e 34 (by omega) (by omega)
  refine ⟨s1.ext (by rw [e34]) (e 35 (by omega) (by omega)), ?_, by rw [e34]; exact s3, by rw [e34]; exact s4, by rw [e34]; exact s5, ?_, ?_, ?_, ?_⟩
  · unfold CT; rw [e34]; exact s2
  · rw [su_rf, pk_us, ad_l]
  · rw [su_p (Or.inr (by omega)), su_p (Or.inl (by omega))]; exact s7
  · rw [su_p (Or.inr (by omega)), su_p (Or.inl (by omega))]; exact s8
  · rw [su_row (by omega), su_rf]
    exact ad_row s9 hc
theorem CS.said {k : Nat} (hh : isW h) (hS : CS σ h n key tp nt dp s) : CS (su σ h 3 (nI k)) h n key tp nt dp (s.1, s.2.1, k) := by
  obtain ⟨b1, b2⟩ := isW_b hh
  obtain ⟨s1, s2, s3, s4, s5, s6, s7, s8, s9⟩ := hS
  have e34 : su σ h 3 (nI k) 34 = σ 34 := su_row (by omega)
  refine ⟨s1.ext (by rw [e34]) (su_row (by omega)), ?_, by rw [e34]; exact s3, by rw [e34]; exact s4, by rw [e34]; exact s5, ?_, ?_, ?_, ?_⟩
  · unfold CT; rw [e34]; exact s2
  · rw [su_p (Or.inr (by omega))]; exact s6
  · rw [su_p (Or.inr (by omega))]; exact s7
  · rw [su_rf, pk_us]
  · rw [su_row (by omega)]; exact s9
theorem CS.fr {σ2 : Nat → Nat → Int32} {tk : Tk} (hh : isW h) (hS : CS σ h n key tp nt dp s) (hf : Fr [34] σ σ2) (ho : ∀ i, i ≠ 2 → i ≠ 3 → i ≠ 4 → σ2 34 i = σ 34 i) (hC : CT σ2 tk) : CS σ2 h n key tp nt dp (tk, s.2) := by
  obtain ⟨b1, b2⟩ := isW_b hh
  obtain ⟨s1, s2, s3, s4, s5, s6, s7, s8, s9⟩ := hS
  have eh : σ2 h = σ h := hf h (by simp; omega)
  have eh1 : σ2 (h + 1) = σ (h + 1) := hf (h + 1) (by simp; omega)
  refine ⟨s1.ext (ho 1 (by omega) (by omega) (by omega)) (hf 35 (by simp)), hC, ?_, ?_, ?_, ?_, ?_, ?_, ?_⟩
  · rw [ho 5 (by omega) (by omega) (by omega)]; exact s3
  · rw [ho 7 (by omega) (by omega) (by omega)]; exact s4
  · rw [ho 6 (by omega) (by omega) (by omega)]; exact s5
  · rw [eh]; exact s6
  · rw [eh]; exact s7
  · rw [eh]; exact s8
  · rw [eh1]; exact s9
/-- going on -/
theorem c_nx (hh : isW h) (hD : 1 ≤ D) (hS : CS σ h n key tp nt dp s) (hW : PW tp n s) : ∃ σ2, Rn E D 10 0 [some (.ref 34), none, none, none] [] (shp, σ) = some (none, (shp, σ2)) ∧ Fr [34, h, h + 1] σ σ2 ∧ CS σ2 h n key tp nt dp (nxS tp n s) := by
  obtain ⟨σ2, g1, g2, g3, g4⟩ := c_nextD (E := E) hD hS.1 hS.2.1 hW.1
  exact ⟨σ2, g1, g2.mono (by simp), hS.fr hh g2 g3 g4⟩
theorem CS.turn {k : Nat} (hh : isW h) (hS : CS σ h n key tp nt dp s) : CS (su σ 34 7 (nI k)) h n key tp k dp s := by
  obtain ⟨b1, b2⟩ := isW_b hh
  obtain ⟨s1, s2, s3, s4, s5, s6, s7, s8, s9⟩ := hS
  have eh : su σ 34 7 (nI k) h = σ h := su_row (by omega)
  have eh1 : su σ 34 7 (nI k) (h + 1) = σ (h + 1) := su_row (by omega)
  have e : ∀ i, i ≠ 7 → su σ 34 7 (nI k) 34 i = σ 34 i := fun i hi => su_p (Or.inr (fun z => hi z.symm))
  refine ⟨s1.ext (e 1 (by omega)) (su_row (by omega)), ?_, by rw [e 5 (by omega)]; exact s3, by rw [su_rf, pk_us], by rw [e 6 (by omega)]; exact s5, by rw [eh]; exact s6, by rw [eh]; exact s7, by rw [eh]; exact s8, by rw [eh1]; exact s9⟩
  unfold CT
  rw [e 2 (by omega), e 3 (by omega), e 4 (by omega)]; exact s2
theorem CS.brk {k : Nat} (hh : isW h) (hS : CS σ h n key tp nt dp s) : CS (su σ 34 6 (nI k)) h n key tp nt k s := by
  obtain ⟨b1, b2⟩ := isW_b hh
  obtain ⟨s1, s2, s3, s4, s5, s6, s7, s8, s9⟩ := hS
  have eh : su σ 34 6 (nI k) h = σ h := su_row (by omega)
  have eh1 : su σ 34 6 (nI k) (h + 1) = σ (h + 1) := su_row (by omega)
  have e : ∀ i, i ≠ 6 → su σ 34 6 (nI k) 34 i = σ 34 i := fun i hi => su_p (Or.inr (fun z => hi z.symm))
  refine ⟨s1.ext (e 1 (by omega)) (su_row (by omega)), ?_, by rw [e 5 (by omega)]; exact s3, by rw [e 7 (by omega)]; exact s4, by rw [su_rf, pk_us], by rw [eh]; exact s6, by rw [eh]; exact s7, by rw [eh]; exact s8, by rw [eh1]; exact s9⟩
  unfold CT
  rw [e 2 (by omega), e 3 (by omega), e 4 (by omega)]; exact s2
theorem CFl.f34 {k pz : Nat} {xv : Int32} (hh : isW h) (hF : CFl σ h n key tp pz) (hk : k = 6 ∨ k = 7) : CFl (su σ 34 k xv) h n key tp pz := by
  obtain ⟨b1, b2⟩ := isW_b hh
  obtain ⟨f1, f2, f3, f4, f5⟩ := hF
  have eh : su σ 34 k xv h = σ h := su_row (by omega)
  have e : ∀ i, i ≠ k → su σ 34 k xv 34 i = σ 34 i := fun i hi => su_p (Or.inr (fun z => hi z.symm))
  exact ⟨f1.ext (e 1 (by omega)) (su_row (by omega)), by rw [e 5 (by omega)]; exact f2, by rw [e 2 (by omega)]; exact f3, by rw [eh]; exact f4, by rw [eh]; exact f5⟩
theorem c_adF {pz : Nat} {cv : Int32} (hh : isW h) (hF : CFl σ h n key tp pz) : ∃ σ2, Rn E D 28 0 [some (.ref h), some (.int cv)] [] (shp, σ) = some (none, (shp, σ2)) ∧ Fr [34, h, h + 1] σ σ2 ∧ CFl σ2 h n key tp pz := by
  obtain ⟨b1, b2⟩ := isW_b hh
  obtain ⟨f1, f2, f3, f4, l, hl, f5⟩ := hF
  obtain ⟨σ2, g1, g2, g3, g4⟩ := c_adds2 (E := E) (D := D) (cv := cv) hh f5 hl
  have e34 : σ2 34 = σ 34 := g2 34 (by simp; omega)
  exact ⟨σ2, g1, g2.mono (by simp), f1.ext (by rw [e34]) (g2 35 (by simp; omega)), by rw [e34]; exact f2, by rw [e34]; exact f3, by rw [g3]; exact f4, g4⟩
theorem c_fl (hh : isW h) (hS : CS σ h n key tp nt dp s) (hW : PW tp n s) : ∃ σ2, Rn E D 14 0 [some (.ref 34)] [] (shp, σ) = some (none, (shp, σ2)) ∧ Fr [34, h, h + 1] σ σ2 ∧ CFl σ2 h n key tp s.1.2.1 := by
  obtain ⟨b1, b2⟩ := isW_b hh
  obtain ⟨s1, s2, s3, s4, s5, s6, s7, s8, s9⟩ := hS
  have h96 := s1.1
  refine ⟨_, c_fails1 s3 s2.2.1, (Fr.rf.su (by simp)).su (by simp), ?_, ?_, ?_, ?_, s.2.1.length, ?_, ?_⟩
  · exact s1.ext (by rw [su_p (Or.inr (by omega)), su_p (Or.inr (by omega))]) (by rw [su_row (by omega), su_row (by omega)])
  · rw [su_p (Or.inr (by omega)), su_rf, pk_us]
  · rw [su_rf, pk_us]
  · rw [su_row (by omega), su_row (by omega)]; exact s7
  · have := hW.2.1; have := hW.1.1; omega
  · rw [su_row (by omega), su_row (by omega)]; exact s6
theorem c_flF {pz : Nat} (hh : isW h) (hp : pz ≤ 96) (hF : CFl σ h n key tp pz) : ∃ σ2, Rn E D 14 0 [some (.ref 34)] [] (shp, σ) = some (none, (shp, σ2)) ∧ Fr [34, h, h + 1] σ σ2 ∧ CFl σ2 h n key tp pz := by
  obtain ⟨b1, b2⟩ := isW_b hh
  obtain ⟨f1, f2, f3, f4, f5⟩ := hF
  refine ⟨_, c_fails2 f2 hp, Fr.rf.su (by simp), ?_, ?_, ?_, ?_, ?_⟩
  · exact f1.ext (by rw [su_p (Or.inr (by omega))]) (by rw [su_row (by omega)])
  · rw [su_p (Or.inr (by omega))]; exact f2
  · rw [su_rf, pk_us]
  · rw [su_row (by omega)]; exact f4
  · rw [su_row (by omega)]; exact f5
theorem c_leaf {pp : Nat × Int32} {cv : Int32} (hh : isW h) (hD : 2 ≤ D) (hS : CS σ h n key tp nt dp s) (hW : PW tp n s) (h0 : s.1.1 ≠ 0) (hc : cv = kodP key pp) : ∃ σ2, Rn E D 19 0 [some (.ref 34), some (.ref h), some (.int cv)] [] (shp, σ) = some (none, (shp, σ2)) ∧ Fr [34, h, h + 1] σ σ2 ∧ CS σ2 h n key tp nt dp (lfS tp n pp s) := by
  obtain ⟨d, rfl⟩ : ∃ d, D = d + 1 := ⟨D - 1, by omega⟩
  obtain ⟨b1, b2⟩ := isW_b hh
  have hn : s.2.1.length < 96 := by
    have := hW.2.1; have := hW.1.1; have := hS.1.1; have := hW.1.2.2.2.1; have := hW.1.2.1; omega
  have a1 := hS.ad (pp := pp) hh hc
  have a2 := a1.said (k := s.2.2 + 1) hh
  obtain ⟨σ2, g1, g2, g3, g4⟩ := c_nextD (E := E) (D := d) (by omega) a2.1 a2.2.1 hW.1
  have e3 : su (su σ (h + 1) s.2.1.length cv) h 1 (nI (s.2.1.length + 1)) h 3 = nI s.2.2 := a1.2.2.2.2.2.2.2.1
  refine ⟨σ2, ?_, ?_, a2.fr hh g2 g3 g4⟩
  · simp (disch := omega) only [e19_0, e19_1, e19_2, e19_5, e19_6, e19_7, e19_10, e19_11, e19_12, e19_15, e19_16, e19_19, ↓reduceIte, inb_n, ix_n, if_true, ne_eq, Nat.reduceEqDiff, not_false_eq_true, clK_s, tl_s, tl_n, clr_i, clr_n, clr_a, nI_add, vR, vW hh, c_adds hh hS.2.2.2.2.2.1 hn, gW_3 hh, pW_3 hh, e3, g1]
  · exact (((Fr.rf.su (by simp)).su (by simp)).su (by simp)).tr (g2.mono (by simp))
end Cpf
