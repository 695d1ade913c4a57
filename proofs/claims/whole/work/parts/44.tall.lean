/-! WITH WHAT ONE IS TALLEST -/
def supA (sv : Nat) (A : Tn) (oz vz : Nat) : Tn := if sv = 0 then tnF A oz 3 (nI vz) else if sv = 1 then tnF A vz 4 (nI oz) else tnF A oz 0 (nI vz)
def tlV (sv : Nat) (A : Tn) (oz nz vz : Nat) : Int32 := tF (spDays nz (supA sv A oz vz)) oz 2
def tlB (o : Option (Nat × Int32)) (xv : Int32) : Bool := match o with
  | none => true
  | some x => decide (x.2 < xv)
def tlF (sv : Nat) (A : Tn) (oz nz stz : Nat) : Nat → Nat → Option (Nat × Int32) → Option (Nat × Int32)
  | 0, _, o => o
  | r + 1, vz, o => tlF sv A oz nz stz r (vz + stz) (if ¬ (sv = 1 ∧ vz = oz) ∧ tlB o (tlV sv A oz nz vz) = true then some (vz, tlV sv A oz nz vz) else o)
def p1 (o : Option (Nat × Int32)) : Option Nat := o.map Prod.fst
def pM : Option (Nat × Int32) → Int32
  | none => (-1000000005)
  | some x => x.2
def pI : Option (Nat × Int32) → Int32
  | none => (-1)
  | some x => x.2
theorem p1_n : p1 none = none := rfl
theorem p1_s {x : Nat × Int32} : p1 (some x) = some x.1 := rfl
theorem pM_n : pM none = (-1000000005) := rfl
theorem pM_s {x : Nat × Int32} : pM (some x) = x.2 := rfl
theorem pI_n : pI none = (-1) := rfl
theorem pI_s {x : Nat × Int32} : pI (some x) = x.2 := rfl
def okQ (o : Option (Nat × Int32)) : Prop := ∀ x, o = some x → x.1 < 2 ^ 31
section Tall
variable {E : aE} {d : Nat} {σ : Nat → Nat → Int32} {A B : Tn} {im : Bool}
theorem tl_le {o : Option (Nat × Int32)} {xv : Int32} (hv : rg 0 200 xv = true) : (xv ≤ pI o) ↔ tlB o xv = false := by
  have r := rg_iff.mp hv
  cases o with
  | none => exact iff_of_false (by rw [pI_n, Int32.le_iff_toInt_le, nI_m1]; omega) (by simp [tlB])
  | some x =>
    rw [pI_s]
    simp only [tlB, decide_eq_false_iff_not]
    rw [Int32.le_iff_toInt_le, Int32.lt_iff_toInt_lt]
    omega
theorem sup_ok {sv oz vz : Nat} (hW : WFp A) (ho : oz < tN A) (h0 : sv = 0 → vz ≤ 50) (h2 : sv = 2 → vz < 6) : (sv = 0 ∨ sv = 1 ∨ sv = 2) → WFp (supA sv A oz vz) ∧ tN (supA sv A oz vz) = tN A ∧ tX (supA sv A oz vz) = tX A := by
  have h8 := hW.1
  intro hs
  unfold supA
  rcases hs with rfl | rfl | rfl
  · rw [if_pos rfl]
    refine ⟨WFp_f hW (by omega) (by omega) (by omega) (fun _ => ?_) (by omega), rfl, rfl⟩
    rw [show (50 : Int) = ((50 : Nat) : Int) from rfl, rg_nI (by have := h0 rfl; omega)]
    simpa using h0 rfl
  · rw [if_neg (by omega), if_pos rfl]
    refine ⟨WFp_f hW (by omega) (by omega) (by omega) (by omega) (fun _ => ?_), rfl, rfl⟩
    rw [rg_iff, nI_toInt (by omega)]
    omega
  · rw [if_neg (by omega), if_neg (by omega)]
    exact ⟨WFp_f hW (by omega) (fun _ => ⟨vz, h2 rfl, rfl⟩) (by omega) (by omega) (by omega), rfl, rfl⟩
theorem tlV_rg {sv oz nz vz : Nat} (ho : oz < tN A) (hW : WFp (supA sv A oz vz)) (hN : tN (supA sv A oz vz) = tN A) : rg 0 200 (tlV sv A oz nz vz) = true := by
  obtain ⟨o1, o2, _⟩ := days_k (r := nz) hW
  exact (o1.2.1 oz (by rw [o2, hN]; exact ho)).2.2.1
theorem c_sup {h sv oz vz : Nat} (hT : isT h) (hC : CR σ h A) (h8 : tN A ≤ 8) (ho : oz < tN A) (h1 : sv = 1 → vz < tN A) (hs : sv = 0 ∨ sv = 1 ∨ sv = 2) : ∃ σ2, Rn E d 35 0 [some (.ref h), some (.int (nI sv)), some (.int (nI oz)), some (.int (nI vz))] [] (shp, σ) = some (none, (shp, σ2)) ∧ FT h σ σ2 ∧ CR σ2 h (supA sv A oz vz) := by
  have hT2 : h = 36 ∨ h = 46 ∨ h = 56 := hT
  have z1 : ¬ nI 2 = nI 0 := by decide +kernel
  have z2 : ¬ nI 2 = nI 1 := by decide +kernel
  unfold supA
  rcases hs with rfl | rfl | rfl
  · rw [if_pos rfl]
    simp (disch := omega) only [e35_0, e35_1, e35_4, e35_5, e35_8, e35_9, e35_10, e35_11, e35_14, e35_15, e35_16, e35_19, e35_20, e35_23, e35_24, e35_25, e35_26, e35_29, e35_30, e35_33, e35_34, e35_35, e35_36, gT_0 hT, gT_1 hT, gT_2 hT, gT_3 hT, gT_4 hT, gT_5 hT, gT_6 hT, gT_7 hT, gT_8 hT, gT_9 hT, gT_10 hT, gT_11 hT, gT_12 hT, gT_13 hT, gT_14 hT, gT_15 hT, gT_16 hT, gT_17 hT, pT_10 hT, pT_11 hT, pT_12 hT, pT_13 hT, pT_14 hT, pT_15 hT, pT_16 hT, pT_17 hT, aT_1 hT, aT_2 hT, aT_3 hT, aT_4 hT, aT_5 hT, aT_6 hT, aT_7 hT, aT_8 hT, aT_9 hT, sT_1 hT, sT_2 hT, sT_3 hT, sT_4 hT, sT_5 hT, sT_6 hT, sT_7 hT, sT_8 hT, sT_9 hT, vT hT, ↓reduceIte, inb_n, ix_n, if_true, ne_eq, Nat.reduceEqDiff, not_false_eq_true, clK_s, tl_s, tl_n, clr_i, clr_n, clr_a, nI_add, not_true_eq_false]
    exact ⟨_, rfl, FT.rf.pu (by omega) (by omega), CR_f (j := 3) hC ho (by omega) (by omega)⟩
  · have hv := h1 rfl
    rw [if_neg (by omega), if_pos rfl]
    simp (disch := omega) only [e35_0, e35_1, e35_4, e35_5, e35_8, e35_9, e35_10, e35_11, e35_14, e35_15, e35_16, e35_19, e35_20, e35_23, e35_24, e35_25, e35_26, e35_29, e35_30, e35_33, e35_34, e35_35, e35_36, gT_0 hT, gT_1 hT, gT_2 hT, gT_3 hT, gT_4 hT, gT_5 hT, gT_6 hT, gT_7 hT, gT_8 hT, gT_9 hT, gT_10 hT, gT_11 hT, gT_12 hT, gT_13 hT, gT_14 hT, gT_15 hT, gT_16 hT, gT_17 hT, pT_10 hT, pT_11 hT, pT_12 hT, pT_13 hT, pT_14 hT, pT_15 hT, pT_16 hT, pT_17 hT, aT_1 hT, aT_2 hT, aT_3 hT, aT_4 hT, aT_5 hT, aT_6 hT, aT_7 hT, aT_8 hT, aT_9 hT, sT_1 hT, sT_2 hT, sT_3 hT, sT_4 hT, sT_5 hT, sT_6 hT, sT_7 hT, sT_8 hT, sT_9 hT, vT hT, ↓reduceIte, inb_n, ix_n, if_true, ne_eq, Nat.reduceEqDiff, not_false_eq_true, clK_s, tl_s, tl_n, clr_i, clr_n, clr_a, nI_add, n10, not_true_eq_false]
    exact ⟨_, rfl, FT.rf.pu (by omega) (by omega), CR_f (j := 4) hC hv (by omega) (by omega)⟩
  · rw [if_neg (by omega), if_neg (by omega)]
    simp (disch := omega) only [e35_0, e35_1, e35_4, e35_5, e35_8, e35_9, e35_10, e35_11, e35_14, e35_15, e35_16, e35_19, e35_20, e35_23, e35_24, e35_25, e35_26, e35_29, e35_30, e35_33, e35_34, e35_35, e35_36, gT_0 hT, gT_1 hT, gT_2 hT, gT_3 hT, gT_4 hT, gT_5 hT, gT_6 hT, gT_7 hT, gT_8 hT, gT_9 hT, gT_10 hT, gT_11 hT, gT_12 hT, gT_13 hT, gT_14 hT, gT_15 hT, gT_16 hT, gT_17 hT, pT_10 hT, pT_11 hT, pT_12 hT, pT_13 hT, pT_14 hT, pT_15 hT, pT_16 hT, pT_17 hT, aT_1 hT, aT_2 hT, aT_3 hT, aT_4 hT, aT_5 hT, aT_6 hT, aT_7 hT, aT_8 hT, aT_9 hT, sT_1 hT, sT_2 hT, sT_3 hT, sT_4 hT, sT_5 hT, sT_6 hT, sT_7 hT, sT_8 hT, sT_9 hT, vT hT, ↓reduceIte, inb_n, ix_n, if_true, ne_eq, Nat.reduceEqDiff, not_false_eq_true, clK_s, tl_s, tl_n, clr_i, clr_n, clr_a, nI_add, z1, z2]
    exact ⟨_, rfl, FT.rf.pu (by omega) (by omega), CR_f (j := 0) hC ho (by omega) (by omega)⟩
theorem c_tall_l {sv oz nz stz lz : Nat} {yv : Int32} (hW : WFp A) (hX : WFx A) (ho : oz < tN A) (hs : sv = 0 ∨ sv = 1 ∨ sv = 2) (hn : nz < 2 ^ 31) (hst : 0 < stz ∧ stz ≤ 5) (hl : lz ≤ 50) (hl1 : sv = 1 → lz < tN A) (hl2 : sv = 2 → lz < 6) : ∀ r vz (o : Option (Nat × Int32)) (σ1 : Nat → Nat → Int32), vz + r * stz = lz + stz → okQ o → CR σ1 36 A → TR σ1 (tX A) →
    ∃ σ2, Rn E (d + 7) 102 51 [some (.ref 0), some (.int (nI sv)), some (.int (nI oz)), some (.int (nI nz)), some (.int yv), some (.int (oM (p1 o))), some (.int (pM o)), some (.int (nI lz)), some (.int (nI stz)), some (.int (nI vz))] [] (shp, σ1) = some (some (.int (if yv = nI 0 then oM (p1 (tlF sv A oz nz stz r vz o)) else pM (tlF sv A oz nz stz r vz o))), (shp, σ2)) ∧ FT 56 σ1 σ2 := by
  have h8 := hW.1
  intro r
  induction r with
  | zero =>
    intro vz o σ1 hv hok hC hR
    have h1 : lz < vz := by omega
    refine ⟨σ1, ?_, FT.rf⟩
    simp (disch := omega) only [e102_51, e102_53, e102_55, e102_58, e102_59, e102_60, e102_63, e102_65, e102_66, e102_69, e102_72, e102_73, e102_76, e102_77, e102_80, e102_83, e102_84, e102_87, e102_88, e102_89, e102_91, e102_94, e102_95, e102_98, e102_99, e102_102, e102_104, e102_106, e102_109, e102_110, e102_113, e102_116, e102_117, e102_118, e102_120, e102_123, e102_125, e102_127, e102_128, e102_131, e102_134, e102_135, e102_136, e102_138, e102_140, e102_142, e102_143, e102_145, e102_148, e102_150, e102_153, e102_155, e102_158, e102_160, nI_ltI, h1, if_true, tlF]
    by_cases hy : yv = nI 0 <;> simp [hy]
  | succ r ih =>
    intro vz o σ1 hv hok hC hR
    rw [Nat.succ_mul] at hv
    have hge : 0 ≤ r * stz := Nat.zero_le _
    have h1 : ¬ lz < vz := by omega
    unfold tlF
    generalize hO : (if ¬ (sv = 1 ∧ vz = oz) ∧ tlB o (tlV sv A oz nz vz) = true then some (vz, tlV sv A oz nz vz) else o) = op
    have hnext : ∀ (o3 : Option (Nat × Int32)) (σ2 : Nat → Nat → Int32), op = o3 → okQ o3 → FT 56 σ1 σ2 → ∃ σ3, Rn E (d + 7) 102 138 [some (.ref 0), some (.int (nI sv)), some (.int (nI oz)), some (.int (nI nz)), some (.int yv), some (.int (oM (p1 o3))), some (.int (pM o3)), some (.int (nI lz)), some (.int (nI stz)), some (.int (nI vz))] [] (shp, σ2) = some (some (.int (if yv = nI 0 then oM (p1 (tlF sv A oz nz stz r (vz + stz) op)) else pM (tlF sv A oz nz stz r (vz + stz) op))), (shp, σ3)) ∧ FT 56 σ1 σ3 := by
      intro o3 σ2 ho3 hok3 hft
      subst ho3
      obtain ⟨σ3, g1, g2⟩ := ih (vz + stz) op σ2 (by omega) hok3 (hC.ext (fun a h1 h2 _ => hft a (by omega) (by omega))) (hR.ft hX.1 (by omega) hft)
      refine ⟨σ3, ?_, hft.tr g2⟩
      rw [← g1]
      simp only [e102_138, e102_140, e102_142, e102_143, e102_145, ↓reduceIte, inb_n, ix_n, if_true, ne_eq, Nat.reduceEqDiff, not_false_eq_true, clK_s, tl_s, tl_n, clr_i, clr_n, clr_a, nI_add]
    by_cases hsk : sv = 1 ∧ vz = oz
    · have hop : op = o := by rw [← hO, if_neg (fun z => z.1 hsk)]
      obtain ⟨σ3, g1, g2⟩ := hnext o σ1 hop hok FT.rf
      refine ⟨σ3, ?_, g2⟩
      rw [← g1, e102_51]
      have e1 : nI sv = nI 1 := by rw [hsk.1]
      have e2 : nI vz = nI oz := by rw [hsk.2]
      simp (disch := omega) only [e102_53, e102_55, e102_58, e102_59, nI_ltI, h1, if_false]
      rw [e102_60, if_neg (fun z => z e1)]
      simp only [e102_63, e102_65]
      rw [e102_66, if_neg (fun z => z e2)]
      simp only [e102_69]
    · have hv1 : sv = 1 → vz < tN A := fun z => by have := hl1 z; omega
      obtain ⟨s1, s2, s3⟩ := sup_ok (vz := vz) hW ho (by omega) (fun z => by have := hl2 z; omega) hs
      obtain ⟨σ2, a1, a2, a3⟩ := c_takes (E := E) (d := d + 5) t56 t36 (by decide) hC h8
      obtain ⟨σ3, b1, b2, b3⟩ := c_sup (E := E) (d := d + 6) t56 a3 h8 ho hv1 hs
      have ft3 := a2.tr b2
      have hX3 : WFx (supA sv A oz vz) := WFx_of s3 hX
      obtain ⟨σ4, p1', p2', p3'⟩ := c_live (E := E) (d := d + 1) hn t56 b3 s1 hX3 (by rw [s3]; exact hR.ft hX.1 (by omega) ft3)
      obtain ⟨o1, o2, o3, o4, o5⟩ := days_k (r := nz) s1
      have ft4 := ft3.tr p2'
      have q2 : σ4 (56 + 3) oz = tlV sv A oz nz vz := p3'.k2 (by rw [o2, s2]; exact ho)
      have hrg : rg 0 200 (tlV sv A oz nz vz) = true := tlV_rg ho s1 s2
      have hnew : okQ (some (vz, tlV sv A oz nz vz)) := fun x hx => by cases hx; show vz < 2 ^ 31; omega
      have hto : Rn E (d + 7) 102 51 [some (.ref 0), some (.int (nI sv)), some (.int (nI oz)), some (.int (nI nz)), some (.int yv), some (.int (oM (p1 o))), some (.int (pM o)), some (.int (nI lz)), some (.int (nI stz)), some (.int (nI vz))] [] (shp, σ1) = Rn E (d + 7) 102 72 [some (.ref 0), some (.int (nI sv)), some (.int (nI oz)), some (.int (nI nz)), some (.int yv), some (.int (oM (p1 o))), some (.int (pM o)), some (.int (nI lz)), some (.int (nI stz)), some (.int (nI vz))] [] (shp, σ1) := by
        rw [e102_51]
        simp (disch := omega) only [e102_53, e102_55, e102_58, e102_59, nI_ltI, h1, if_false]
        rw [e102_60]
        by_cases hs1 : sv = 1
        · have e1 : nI sv = nI 1 := by rw [hs1]
          have e2 : ¬ nI vz = nI oz := fun z => hsk ⟨hs1, (nI_eq (by omega) (by omega)).mp z⟩
          rw [if_neg (fun z => z e1)]
          simp only [e102_63, e102_65]
          rw [e102_66, if_pos e2]
        · have e1 : ¬ nI sv = nI 1 := fun z => hs1 ((nI_eq (by omega) (by omega)).mp z)
          rw [if_pos e1]
      rw [hto]
      have hmid : Rn E (d + 7) 102 72 [some (.ref 0), some (.int (nI sv)), some (.int (nI oz)), some (.int (nI nz)), some (.int yv), some (.int (oM (p1 o))), some (.int (pM o)), some (.int (nI lz)), some (.int (nI stz)), some (.int (nI vz))] [] (shp, σ1) = Rn E (d + 7) 102 106 [some (.ref 0), some (.int (nI sv)), some (.int (nI oz)), some (.int (nI nz)), some (.int yv), some (.int (oM (p1 o))), some (.int (pM o)), some (.int (nI lz)), some (.int (nI stz)), some (.int (nI vz))] [.int (-1000000005), .int (oM (p1 o))] (shp, σ4) := by
        simp (disch := omega) only [e102_72, e102_73, e102_76, e102_77, e102_80, e102_83, e102_84, e102_87, e102_88, e102_89, e102_91, e102_94, e102_95, e102_98, e102_99, e102_102, e102_104, ↓reduceIte, inb_n, ix_n, if_true, ne_eq, Nat.reduceEqDiff, not_false_eq_true, clK_s, tl_s, tl_n, clr_i, clr_n, clr_a, nI_add, gX_4, gX_2, vT t56, a1, b1, p1']
      rw [hmid]
      have hset : ∀ o3 : Option (Nat × Int32), Rn E (d + 7) 102 123 [some (.ref 0), some (.int (nI sv)), some (.int (nI oz)), some (.int (nI nz)), some (.int yv), some (.int (oM (p1 o3))), some (.int (pM o3)), some (.int (nI lz)), some (.int (nI stz)), some (.int (nI vz))] [] (shp, σ4) = Rn E (d + 7) 102 138 [some (.ref 0), some (.int (nI sv)), some (.int (nI oz)), some (.int (nI nz)), some (.int yv), some (.int (nI vz)), some (.int (tlV sv A oz nz vz)), some (.int (nI lz)), some (.int (nI stz)), some (.int (nI vz))] [] (shp, σ4) := by
        intro o3
        simp (disch := omega) only [e102_123, e102_125, e102_127, e102_128, e102_131, e102_134, e102_135, e102_136, ↓reduceIte, inb_n, ix_n, if_true, ne_eq, Nat.reduceEqDiff, not_false_eq_true, clK_s, tl_s, tl_n, clr_i, clr_n, clr_a, nI_add, gX_4, gT_0 t56, gT_1 t56, gT_2 t56, gT_3 t56, gT_4 t56, gT_5 t56, gT_6 t56, gT_7 t56, gT_8 t56, gT_9 t56, gT_10 t56, gT_11 t56, gT_12 t56, gT_13 t56, gT_14 t56, gT_15 t56, gT_16 t56, gT_17 t56, pT_10 t56, pT_11 t56, pT_12 t56, pT_13 t56, pT_14 t56, pT_15 t56, pT_16 t56, pT_17 t56, aT_1 t56, aT_2 t56, aT_3 t56, aT_4 t56, aT_5 t56, aT_6 t56, aT_7 t56, aT_8 t56, aT_9 t56, sT_1 t56, sT_2 t56, sT_3 t56, sT_4 t56, sT_5 t56, sT_6 t56, sT_7 t56, sT_8 t56, sT_9 t56, vT t56, q2]
      cases ho4 : o with
      | none =>
        subst ho4
        have hop : op = some (vz, tlV sv A oz nz vz) := by rw [← hO, if_pos ⟨hsk, rfl⟩]
        obtain ⟨σ5, g1, g2⟩ := hnext (some (vz, tlV sv A oz nz vz)) σ4 hop hnew ft4
        refine ⟨σ5, ?_, g2⟩
        rw [e102_106, if_pos (by rfl), hset]
        exact g1
      | some x =>
        subst ho4
        have z1 : ¬ oM (p1 (some x)) = (-1000000005) := none_ne (hok x rfl)
        rw [e102_106, if_neg z1]
        simp (disch := omega) only [e102_109, e102_110, e102_113, e102_116, e102_117, e102_118, ↓reduceIte, inb_n, ix_n, if_true, ne_eq, Nat.reduceEqDiff, not_false_eq_true, clK_s, tl_s, tl_n, clr_i, clr_n, clr_a, nI_add, gX_4, gT_0 t56, gT_1 t56, gT_2 t56, gT_3 t56, gT_4 t56, gT_5 t56, gT_6 t56, gT_7 t56, gT_8 t56, gT_9 t56, gT_10 t56, gT_11 t56, gT_12 t56, gT_13 t56, gT_14 t56, gT_15 t56, gT_16 t56, gT_17 t56, pT_10 t56, pT_11 t56, pT_12 t56, pT_13 t56, pT_14 t56, pT_15 t56, pT_16 t56, pT_17 t56, aT_1 t56, aT_2 t56, aT_3 t56, aT_4 t56, aT_5 t56, aT_6 t56, aT_7 t56, aT_8 t56, aT_9 t56, sT_1 t56, sT_2 t56, sT_3 t56, sT_4 t56, sT_5 t56, sT_6 t56, sT_7 t56, sT_8 t56, sT_9 t56, vT t56, q2]
        rw [e102_120]
        by_cases hlt : x.2 < tlV sv A oz nz vz
        · have z2 : ¬ tlV sv A oz nz vz ≤ pM (some x) := Int32.not_le.mpr hlt
          have hop : op = some (vz, tlV sv A oz nz vz) := by rw [← hO, if_pos ⟨hsk, decide_eq_true hlt⟩]
          obtain ⟨σ5, g1, g2⟩ := hnext (some (vz, tlV sv A oz nz vz)) σ4 hop hnew ft4
          refine ⟨σ5, ?_, g2⟩
          rw [if_neg z2, hset]
          exact g1
        · have z2 : tlV sv A oz nz vz ≤ pM (some x) := Int32.not_lt.mp hlt
          have hop : op = some x := by rw [← hO, if_neg (fun z => hlt (of_decide_eq_true z.2))]
          obtain ⟨σ5, g1, g2⟩ := hnext (some x) σ4 hop hok ft4
          refine ⟨σ5, ?_, g2⟩
          rw [if_pos z2]
          exact g1
theorem k_tall_l {sv oz nz stz lz fz : Nat} {yv : Int32} (hW : WFp A) (hX : WFx A) (ho : oz < tN A) (hs : (sv = 0 ∧ fz = 3) ∨ (sv = 2 ∧ fz = 0)) (hn : nz < 2 ^ 31) (hst : 0 < stz ∧ stz ≤ 5) (hl : lz ≤ 50) (hl2 : sv = 2 → lz < 6) : ∀ r vz (o : Option (Nat × Int32)) (σ1 : Nat → Nat → Int32) (w10 : Option Value), vz + r * stz = lz + stz → MR (σ1 94) A → LB (σ1 106) A →
    ∃ σ2, Rn E (d + 8) 161 13 [some (.ref 93), some (.int (nI oz)), some (.int (nI fz)), some (.int (nI stz)), some (.int (nI lz)), some (.int (nI nz)), some (.int yv), some (.int (oI (p1 o))), some (.int (pI o)), some (.int (nI vz)), w10] [] (shp, σ1) = some (some (.int (if yv = nI 0 then oI (p1 (tlF sv A oz nz stz r vz o)) else pI (tlF sv A oz nz stz r vz o))), (shp, σ2)) ∧ Fr [94, 105, 108, 109] σ1 σ2 ∧ MR (σ2 94) A := by
  have h8 := hW.1
  intro r
  induction r with
  | zero =>
    intro vz o σ1 w10 hv hM hB
    have h1 : lz < vz := by omega
    refine ⟨σ1, ?_, Fr.rf, hM⟩
    simp (disch := omega) only [e161_13, e161_15, e161_17, e161_20, e161_21, e161_22, e161_23, e161_25, e161_28, e161_29, e161_31, e161_34, e161_35, e161_36, e161_37, e161_40, e161_42, e161_43, e161_46, e161_48, e161_50, e161_53, e161_55, e161_58, e161_60, e161_62, e161_64, e161_66, e161_69, e161_71, e161_74, e161_76, e161_78, e161_80, e161_81, e161_82, e161_84, e161_87, e161_89, e161_92, e161_94, e161_97, e161_99, nI_ltI, h1, if_true, tlF]
    by_cases hy : yv = nI 0 <;> simp [hy]
  | succ r ih =>
    intro vz o σ1 w10 hv hM hB
    rw [Nat.succ_mul] at hv
    have hge : 0 ≤ r * stz := Nat.zero_le _
    have h1 : ¬ lz < vz := by omega
    have hsA : supA sv A oz vz = tnF A oz fz (nI vz) := by
      unfold supA
      rcases hs with ⟨rfl, rfl⟩ | ⟨rfl, rfl⟩
      · rw [if_pos rfl]
      · rw [if_neg (by omega), if_neg (by omega)]
    obtain ⟨s1, s2, s3⟩ := sup_ok (vz := vz) hW ho (by omega) (fun z => by have := hl2 z; omega) (show sv = 0 ∨ sv = 1 ∨ sv = 2 by omega)
    have hM2 : MR (su σ1 94 (10 + 5 * oz + fz) (nI vz) 94) (supA sv A oz vz) := by rw [su_rf, hsA]; exact MR_f hM h8 ho (by omega)
    obtain ⟨σ2, a1, a2, a3⟩ := k_goesOnMany (E := E) (d := d) hn hM2 s1 (WFx_of s3 hX)
    obtain ⟨o1, o2, o3, o4, o5⟩ := days_k (r := nz) s1
    have f2 : σ2 94 (10 + 5 * oz + 2) = tlV sv A oz nz vz := a3.2.1 oz (by rw [o2, s2]; exact ho) 2 (by omega)
    have e106 : σ2 106 = σ1 106 := by rw [a2 106 (by decide), su_row (by decide)]
    obtain ⟨σ3, b1, b2, b3⟩ := k_back (E := E) (d := d + 7) a3 (o3.trans s3) h8 (by rw [e106]; exact hB)
    have fr3 : Fr [94, 105, 108, 109] σ1 σ3 := ((Fr.rf.su (by decide)).tr a2).tr (b2.mono (by decide))
    have hrg : rg 0 200 (tlV sv A oz nz vz) = true := tlV_rg ho s1 s2
    unfold tlF
    have hsk : ¬ (sv = 1 ∧ vz = oz) := by omega
    generalize hO : (if ¬ (sv = 1 ∧ vz = oz) ∧ tlB o (tlV sv A oz nz vz) = true then some (vz, tlV sv A oz nz vz) else o) = op
    obtain ⟨σ4, g1, g2, g3⟩ := ih (vz + stz) op σ3 (some (.int (tlV sv A oz nz vz))) (by omega) b3 (by rw [fr3 106 (by decide)]; exact hB)
    refine ⟨σ4, ?_, fr3.tr g2, g3⟩
    rw [← g1]
    conv => lhs; rw [e161_13]
    cases hb : tlB o (tlV sv A oz nz vz) with
    | true =>
      have hop : op = some (vz, tlV sv A oz nz vz) := by rw [← hO, if_pos ⟨hsk, hb⟩]
      rw [hop]
      simp (disch := omega) only [e161_0, e161_1, e161_4, e161_5, e161_7, e161_8, e161_10, e161_11, e161_15, e161_17, e161_20, e161_21, e161_22, e161_23, e161_25, e161_28, e161_29, e161_31, e161_34, e161_35, e161_36, e161_37, e161_40, e161_42, e161_43, e161_46, e161_48, e161_50, e161_53, e161_55, e161_58, e161_60, e161_62, e161_64, e161_66, e161_69, e161_71, e161_74, e161_76, e161_78, e161_80, e161_81, e161_82, e161_84, e161_87, e161_89, e161_92, e161_94, e161_97, e161_99, ↓reduceIte, gM_0, a_94, inb_n, ix_n, if_true, ne_eq, Nat.reduceEqDiff, not_false_eq_true, vM, clK_s, tl_s, tl_n, clr_i, clr_n, clr_a, nI_add, nI_ltI, h1, k_sets, a1, k_of, f2, b1, tl_le hrg, hb, bI_0, Bool.true_eq_false, Bool.false_eq_true, not_true_eq_false, not_false_eq_true, if_false, reduceCtorEq]
      rfl
    | false =>
      have hop : op = o := by rw [← hO, if_neg (fun z => by rw [hb] at z; exact absurd z.2 (by decide))]
      rw [hop]
      simp (disch := omega) only [e161_0, e161_1, e161_4, e161_5, e161_7, e161_8, e161_10, e161_11, e161_15, e161_17, e161_20, e161_21, e161_22, e161_23, e161_25, e161_28, e161_29, e161_31, e161_34, e161_35, e161_36, e161_37, e161_40, e161_42, e161_43, e161_46, e161_48, e161_50, e161_53, e161_55, e161_58, e161_60, e161_62, e161_64, e161_66, e161_69, e161_71, e161_74, e161_76, e161_78, e161_80, e161_81, e161_82, e161_84, e161_87, e161_89, e161_92, e161_94, e161_97, e161_99, ↓reduceIte, gM_0, a_94, inb_n, ix_n, if_true, ne_eq, Nat.reduceEqDiff, not_false_eq_true, vM, clK_s, tl_s, tl_n, clr_i, clr_n, clr_a, nI_add, nI_ltI, h1, k_sets, a1, k_of, f2, b1, tl_le hrg, hb, bI_0, Bool.true_eq_false, Bool.false_eq_true, not_true_eq_false, not_false_eq_true, if_false, reduceCtorEq]
theorem k_loved_l {oz nz : Nat} {yv : Int32} (hW : WFp A) (hX : WFx A) (ho : oz < tN A) (hn : nz < 2 ^ 31) : ∀ r vz (o : Option (Nat × Int32)) (σ1 : Nat → Nat → Int32) (w7 : Option Value), vz + r = tN A → okQ o → MR (σ1 94) A → LB (σ1 106) A →
    ∃ σ2, Rn E (d + 8) 163 13 [some (.ref 93), some (.int (nI oz)), some (.int (nI nz)), some (.int yv), some (.int (oI (p1 o))), some (.int (pI o)), some (.int (nI vz)), w7] [] (shp, σ1) = some (some (.int (if yv = nI 0 then oM (p1 (tlF 1 A oz nz 1 r vz o)) else pM (tlF 1 A oz nz 1 r vz o))), (shp, σ2)) ∧ Fr [94, 105, 108, 109] σ1 σ2 ∧ MR (σ2 94) A := by
  have h8 := hW.1
  intro r
  induction r with
  | zero =>
    intro vz o σ1 w7 hv hok hM hB
    have h1 : tN A ≤ vz := by omega
    have e0 := hM.1
    have hlt : ∀ kk, p1 o = some kk → kk < 2 ^ 31 := fun kk hkk => by
      cases o with
      | none => cases hkk
      | some x => have := hok x rfl; have : kk = x.1 := (Option.some.inj hkk).symm; omega
    refine ⟨σ1, ?_, Fr.rf, hM⟩
    simp (disch := omega) only [e163_13, e163_15, e163_16, e163_19, e163_20, e163_21, e163_24, e163_26, e163_27, e163_30, e163_31, e163_33, e163_34, e163_35, e163_38, e163_39, e163_40, e163_43, e163_44, e163_45, e163_46, e163_49, e163_51, e163_52, e163_55, e163_57, e163_59, e163_62, e163_64, e163_67, e163_69, e163_71, e163_73, e163_75, e163_78, e163_80, e163_83, e163_85, e163_87, e163_90, e163_93, e163_95, e163_98, e163_100, e163_103, e163_104, e163_107, e163_109, e163_112, e163_114, ↓reduceIte, gM_0, a_94, inb_n, ix_n, if_true, ne_eq, Nat.reduceEqDiff, not_false_eq_true, vM, clK_s, tl_s, tl_n, clr_i, clr_n, clr_a, nI_add, e0, nI_leI, h1, oI_pos hlt, tlF]
    cases o with
    | none => simp [p1, pM, oM]
    | some x => by_cases hy : yv = nI 0 <;> simp [hy, p1, pM, pI, oM, oI]
  | succ r ih =>
    intro vz o σ1 w7 hv hok hM hB
    have h1 : ¬ tN A ≤ vz := by omega
    have hvn : vz < tN A := by omega
    have e0 := hM.1
    unfold tlF
    generalize hO : (if ¬ (1 = 1 ∧ vz = oz) ∧ tlB o (tlV 1 A oz nz vz) = true then some (vz, tlV 1 A oz nz vz) else o) = op
    by_cases hsk : vz = oz
    · have hop : op = o := by rw [← hO, if_neg (fun z => z.1 ⟨rfl, hsk⟩)]
      rw [hop]
      obtain ⟨σ4, g1, g2, g3⟩ := ih (vz + 1) o σ1 w7 (by omega) hok hM hB
      refine ⟨σ4, ?_, g2, g3⟩
      rw [← g1]
      conv => lhs; rw [e163_13]
      have e2 : nI vz = nI oz := by rw [hsk]
      simp (disch := omega) only [e163_15, e163_16, e163_19, e163_20, e163_21, e163_24, e163_26, ↓reduceIte, gM_0, a_94, inb_n, ix_n, if_true, ne_eq, Nat.reduceEqDiff, not_false_eq_true, vM, clK_s, tl_s, tl_n, clr_i, clr_n, clr_a, nI_add, e0, nI_leI, h1]
      rw [e163_27, if_pos e2]
      simp only [e163_87, e163_90, ↓reduceIte, gM_0, a_94, inb_n, ix_n, if_true, ne_eq, Nat.reduceEqDiff, not_false_eq_true, vM, clK_s, tl_s, tl_n, clr_i, clr_n, clr_a, nI_add]
    · have hne : ¬ nI vz = nI oz := fun z => hsk ((nI_eq (by omega) (by omega)).mp z)
      have hsk2 : ¬ (1 = 1 ∧ vz = oz) := fun z => hsk z.2
      have hsA : supA 1 A oz vz = tnF A vz 4 (nI oz) := by unfold supA; rw [if_neg (by omega), if_pos rfl]
      obtain ⟨s1, s2, s3⟩ := sup_ok (sv := 1) (vz := vz) hW ho (by omega) (by omega) (by omega)
      have hM2 : MR (su σ1 94 (10 + 5 * vz + 4) (nI oz) 94) (supA 1 A oz vz) := by rw [su_rf, hsA]; exact MR_f hM h8 hvn (by omega)
      obtain ⟨σ2, a1, a2, a3⟩ := k_goesOnMany (E := E) (d := d) hn hM2 s1 (WFx_of s3 hX)
      obtain ⟨o1, o2, o3, o4, o5⟩ := days_k (r := nz) s1
      have f2 : σ2 94 (10 + 5 * oz + 2) = tlV 1 A oz nz vz := a3.2.1 oz (by rw [o2, s2]; exact ho) 2 (by omega)
      have e106 : σ2 106 = σ1 106 := by rw [a2 106 (by decide), su_row (by decide)]
      obtain ⟨σ3, b1, b2, b3⟩ := k_back (E := E) (d := d + 7) a3 (o3.trans s3) h8 (by rw [e106]; exact hB)
      have fr3 : Fr [94, 105, 108, 109] σ1 σ3 := ((Fr.rf.su (by decide)).tr a2).tr (b2.mono (by decide))
      have hrg : rg 0 200 (tlV 1 A oz nz vz) = true := tlV_rg ho s1 s2
      have hokp : okQ op := by
        rw [← hO]
        split
        · intro x hx; cases hx; show vz < 2 ^ 31; omega
        · exact hok
      obtain ⟨σ4, g1, g2, g3⟩ := ih (vz + 1) op σ3 (some (.int (tlV 1 A oz nz vz))) (by omega) hokp b3 (by rw [fr3 106 (by decide)]; exact hB)
      refine ⟨σ4, ?_, fr3.tr g2, g3⟩
      rw [← g1]
      conv => lhs; rw [e163_13]
      cases hb : tlB o (tlV 1 A oz nz vz) with
      | true =>
        have hop : op = some (vz, tlV 1 A oz nz vz) := by rw [← hO, if_pos ⟨hsk2, hb⟩]
        rw [hop]
        simp (disch := omega) only [e163_0, e163_1, e163_4, e163_5, e163_7, e163_8, e163_10, e163_11, e163_15, e163_16, e163_19, e163_20, e163_21, e163_24, e163_26, e163_27, e163_30, e163_31, e163_33, e163_34, e163_35, e163_38, e163_39, e163_40, e163_43, e163_44, e163_45, e163_46, e163_49, e163_51, e163_52, e163_55, e163_57, e163_59, e163_62, e163_64, e163_67, e163_69, e163_71, e163_73, e163_75, e163_78, e163_80, e163_83, e163_85, e163_87, e163_90, e163_93, e163_95, e163_98, e163_100, e163_103, e163_104, e163_107, e163_109, e163_112, e163_114, ↓reduceIte, gM_0, a_94, inb_n, ix_n, if_true, ne_eq, Nat.reduceEqDiff, not_false_eq_true, vM, clK_s, tl_s, tl_n, clr_i, clr_n, clr_a, nI_add, e0, nI_leI, h1, hne, k_sets, a1, k_of, f2, b1, tl_le hrg, hb, bI_0, Bool.true_eq_false, Bool.false_eq_true, not_true_eq_false, not_false_eq_true, if_false, reduceCtorEq]
        rfl
      | false =>
        have hop : op = o := by rw [← hO, if_neg (fun z => by rw [hb] at z; exact absurd z.2 (by decide))]
        rw [hop]
        simp (disch := omega) only [e163_0, e163_1, e163_4, e163_5, e163_7, e163_8, e163_10, e163_11, e163_15, e163_16, e163_19, e163_20, e163_21, e163_24, e163_26, e163_27, e163_30, e163_31, e163_33, e163_34, e163_35, e163_38, e163_39, e163_40, e163_43, e163_44, e163_45, e163_46, e163_49, e163_51, e163_52, e163_55, e163_57, e163_59, e163_62, e163_64, e163_67, e163_69, e163_71, e163_73, e163_75, e163_78, e163_80, e163_83, e163_85, e163_87, e163_90, e163_93, e163_95, e163_98, e163_100, e163_103, e163_104, e163_107, e163_109, e163_112, e163_114, ↓reduceIte, gM_0, a_94, inb_n, ix_n, if_true, ne_eq, Nat.reduceEqDiff, not_false_eq_true, vM, clK_s, tl_s, tl_n, clr_i, clr_n, clr_a, nI_add, e0, nI_leI, h1, hne, k_sets, a1, k_of, f2, b1, tl_le hrg, hb, bI_0, Bool.true_eq_false, Bool.false_eq_true, not_true_eq_false, not_false_eq_true, if_false, reduceCtorEq]
theorem k_isAsked {S : aSt} {xv yv : Int32} : Rn E (d + 1) 160 0 [some (.int xv), some (.int yv)] [] S = some (some (.int (bI (rg 1 60 xv && rg 0 1 yv))), S) := by
  simp only [e160_0, e160_1, e160_2, e160_3, e160_6, e160_9, e160_12, e160_13, e160_14, e160_15, e160_16, e160_19, e160_22, e160_23, e160_26, e160_27, k_in, rgL_c, tL_0, tL_1, tL_2, tL_3, tL_4, tL_5, tL_6, tL_7, tL_8, tL_19, tL_30, tL_48, tL_50, tL_57, tL_60, tL_97, tL_100, tL_122, tL_200, tL_99999, tL_m1, tL_m99999, clK_s, tl_s, bI_0, rz_1, rz_0]
  cases rg 1 60 xv <;> cases rg 0 1 yv <;> simp [rz_1, rz_0]
theorem c_isSup {xv yv zv : Int32} (hC : CR σ 36 A) (h8 : tN A ≤ 8) : Rn E (d + 1) 100 0 [some (.ref 0), some (.int xv), some (.int yv), some (.int zv)] [] (shp, σ) = some (some (.int (bI (hasB A xv && (rg 1 60 yv && rg 0 1 zv)))), (shp, σ)) := by
  simp only [e100_0, e100_1, e100_4, e100_5, e100_8, e100_11, e100_12, e100_13, e100_15, e100_18, e100_21, e100_22, e100_23, e100_24, e100_27, e100_30, e100_31, e100_34, e100_35, gX_2, vT t36, c_has t36 hC h8, c_isWithin, tI_0, tI_1, tI_2, tI_3, tI_4, tI_5, tI_6, tI_7, tI_8, tI_19, tI_20, tI_23, tI_24, tI_29, tI_30, tI_48, tI_50, tI_57, tI_60, tI_97, tI_100, tI_122, tI_200, tI_99999, tI_m1, tI_m99999, clK_s, tl_s, bI_0, rz_1, rz_0]
  cases hasB A xv <;> cases rg 1 60 yv <;> cases rg 0 1 zv <;> simp [rz_1, rz_0]
theorem tl_some {sv oz nz stz : Nat} (hs : sv ≠ 1) : ∀ r vz (o : Option (Nat × Int32)), 0 < r ∨ o ≠ none → tlF sv A oz nz stz r vz o ≠ none := by
  intro r
  induction r with
  | zero => intro vz o h; rcases h with h | h; · omega
            · exact h
  | succ r ih =>
    intro vz o _
    unfold tlF
    refine ih _ _ (Or.inr ?_)
    cases o with
    | none => rw [if_pos ⟨fun z => hs z.1, rfl⟩]; simp
    | some x => split <;> simp
theorem op_tall {sv stz lz fz mc mr rz : Nat} (hI : INV σ A B im) (xv yv zv : Int32) (hs : (sv = 0 ∧ fz = 3) ∨ (sv = 2 ∧ fz = 0)) (hst : 0 < stz ∧ stz ≤ 5) (hl : lz ≤ 50) (hl2 : sv = 2 → lz < 6) (hr : 0 + rz * stz = lz + stz)
    (hc0 : ∀ σ, CR σ 36 A → (hasB A xv && (rg 1 60 yv && rg 0 1 zv)) = false → Rn E (d + 50) mc 0 [some (.ref 0), some (.int xv), some (.int yv), some (.int zv)] [] (shp, σ) = some (some (.int (-1000000001)), (shp, σ)))
    (hk0 : ∀ σ, MR (σ 94) A → (hasB A xv && (rg 1 60 yv && rg 0 1 zv)) = false → Rn E (d + 50) mr 0 [some (.ref 93), some (.int xv), some (.int yv), some (.int zv)] [] (shp, σ) = some (some (.int (-1000000001)), (shp, σ)))
    (hc1 : ∀ (σ σ' : Nat → Nat → Int32) (v : Int32), CR σ 36 A → (hasB A xv && (rg 1 60 yv && rg 0 1 zv)) = true → Rn E (d + 49) 102 0 [some (.ref 0), some (.int (nI sv)), some (.int xv), some (.int yv), some (.int zv), none, none, none, none, none] [] (shp, σ) = some (some (.int v), (shp, σ')) → Rn E (d + 50) mc 0 [some (.ref 0), some (.int xv), some (.int yv), some (.int zv)] [] (shp, σ) = some (some (.int v), (shp, σ')))
    (hk1 : ∀ (σ σ' : Nat → Nat → Int32) (v : Int32), MR (σ 94) A → (hasB A xv && (rg 1 60 yv && rg 0 1 zv)) = true → Rn E (d + 49) 161 0 [some (.ref 93), some (.int xv), some (.int (nI fz)), some (.int (nI stz)), some (.int (nI lz)), some (.int yv), some (.int zv), none, none, none, none] [] (shp, σ) = some (some (.int v), (shp, σ')) → Rn E (d + 50) mr 0 [some (.ref 93), some (.int xv), some (.int yv), some (.int zv)] [] (shp, σ) = some (some (.int v), (shp, σ')))
    (hst2 : Rn E (d + 49) 102 0 [some (.ref 0), some (.int (nI sv)), some (.int xv), some (.int yv), some (.int zv), none, none, none, none, none] [] (shp, σ) = Rn E (d + 49) 102 51 [some (.ref 0), some (.int (nI sv)), some (.int xv), some (.int yv), some (.int zv), some (.int (-1000000005)), some (.int (-1000000005)), some (.int (nI lz)), some (.int (nI stz)), some (.int (nI 0))] [] (shp, σ)) :
    OK2 σ (Rn E (d + 50) mc 0 [some (.ref 0), some (.int xv), some (.int yv), some (.int zv)] []) (Rn E (d + 50) mr 0 [some (.ref 93), some (.int xv), some (.int yv), some (.int zv)] []) := by
  obtain ⟨⟨hC, hM, hW, hX, hc, hR⟩, _⟩ := id hI
  have h8 := hW.1
  cases hb : (hasB A xv && (rg 1 60 yv && rg 0 1 zv)) with
  | false => exact ok_read (vv := (-1000000001)) hI (hc0 σ hC hb) (hk0 σ hM hb)
  | true =>
    have hb2 := hb
    simp only [Bool.and_eq_true] at hb2
    obtain ⟨b1, b2, b3⟩ := hb2
    obtain ⟨kz, hk, rfl⟩ := hasB_ex b1
    have hr2 := rg_iff.mp b2
    obtain ⟨nz, hn, rfl⟩ := rg_e (n := 60) (xv := yv) rfl (rg_iff.mpr ⟨by omega, hr2.2⟩)
    have hok0 : okQ none := fun x hx => by cases hx
    obtain ⟨σ1, a1, a2⟩ := c_tall_l (E := E) (d := d + 42) (sv := sv) (nz := nz) (stz := stz) (lz := lz) (yv := zv) hW hX hk (by omega) (by omega) hst hl (by omega) hl2 rz 0 none σ hr hok0 hC hR
    have hM1 : MR (σ1 94) A := by rw [a2 94 (by omega) (by omega)]; exact hM
    have hC1 : CR σ1 36 A := hC.ext (fun a h1 h2 _ => a2 a (by omega) (by omega))
    obtain ⟨σ2, p1', p2', p3'⟩ := k_by (E := E) (d := d + 48) hM1 h8
    have hM2 : MR (σ2 94) A := by rw [p2' 94 (by decide)]; exact hM1
    obtain ⟨σ3, q1, q2, q3⟩ := k_tall_l (E := E) (d := d + 41) (sv := sv) (nz := nz) (stz := stz) (lz := lz) (fz := fz) (yv := zv) hW hX hk hs (by omega) hst hl hl2 rz 0 none σ2 none hr hM2 p3'
    have fr : Fr [94, 96, 105, 106, 108, 109, 110, 112] σ1 σ3 := (p2'.mono (by decide)).tr (q2.mono (by decide))
    have hne : tlF sv A kz nz stz rz 0 none ≠ none := tl_some (by omega) rz 0 none (Or.inl (by
      rcases Nat.eq_zero_or_pos rz with h | h
      · rw [h] at hr; omega
      · exact h))
    refine ⟨if zv = nI 0 then oM (p1 (tlF sv A kz nz stz rz 0 none)) else pM (tlF sv A kz nz stz rz 0 none), σ1, σ3, A, B, im, ?_, ?_, hI.same ((QT.f56 a2).tr (QT.fr fr)) (hC1.ext (fun a h1 h2 _ => fr a (by simp; omega))) q3⟩
    · refine hc1 σ σ1 _ hC hb ?_
      rw [hst2]
      exact a1
    · refine hk1 σ1 σ3 _ hM1 hb ?_
      simp (disch := omega) only [e161_0, e161_1, e161_4, e161_5, e161_7, e161_8, e161_10, e161_11, ↓reduceIte, gM_0, a_94, inb_n, ix_n, if_true, ne_eq, Nat.reduceEqDiff, not_false_eq_true, vM, clK_s, tl_s, tl_n, clr_i, clr_n, clr_a, nI_add, p1']
      refine Eq.trans q1 ?_
      cases hq : tlF sv A kz nz stz rz 0 none with
      | none => exact absurd hq hne
      | some x => rfl
theorem op_loud {xv yv zv : Int32} (hI : INV σ A B im) : OK2 σ (Rn E (d + 50) 72 0 [some (.ref 0), some (.int xv), some (.int yv), some (.int zv)] []) (Rn E (d + 50) 162 0 [some (.ref 93), some (.int xv), some (.int yv), some (.int zv)] []) := by
  have h8 := hI.1.2.2.1.1
  have z1 : ¬ nI 2 = nI 0 := by decide +kernel
  have z2 : ¬ nI 2 = nI 1 := by decide +kernel
  refine op_tall (sv := 0) (stz := 5) (lz := 50) (fz := 3) (rz := 11) hI xv yv zv (by omega) (by omega) (by omega) (by omega) (by omega) ?_ ?_ ?_ ?_ ?_
  · intro σ hC hb
    simp (disch := omega) only [e72_0, e72_1, e72_2, e72_3, e72_4, e72_7, e72_10, e72_12, e72_13, e72_14, e72_15, e72_16, e72_17, e72_18, e72_21, ↓reduceIte, inb_n, ix_n, if_true, ne_eq, Nat.reduceEqDiff, not_false_eq_true, clK_s, tl_s, tl_n, clr_i, clr_n, clr_a, nI_add, vX, c_isSup hC h8, hb, bI_0, Bool.true_eq_false, Bool.false_eq_true, not_true_eq_false, not_false_eq_true, if_false, reduceCtorEq]
  · intro σ hM hb
    cases ho : hasB A xv with
    | false => simp (disch := omega) only [e162_0, e162_1, e162_2, e162_5, e162_8, e162_9, e162_10, e162_13, e162_16, e162_17, e162_18, e162_19, e162_20, e162_22, e162_23, e162_24, e162_27, e162_30, e162_32, ↓reduceIte, gM_0, a_94, inb_n, ix_n, if_true, ne_eq, Nat.reduceEqDiff, not_false_eq_true, vM, clK_s, tl_s, tl_n, clr_i, clr_n, clr_a, nI_add, k_isOne hM h8, ho, bI_0, Bool.true_eq_false, Bool.false_eq_true, not_true_eq_false, not_false_eq_true, if_false, reduceCtorEq]
    | true =>
      rw [ho, Bool.true_and] at hb
      simp (disch := omega) only [e162_0, e162_1, e162_2, e162_5, e162_8, e162_9, e162_10, e162_13, e162_16, e162_17, e162_18, e162_19, e162_20, e162_22, e162_23, e162_24, e162_27, e162_30, e162_32, ↓reduceIte, gM_0, a_94, inb_n, ix_n, if_true, ne_eq, Nat.reduceEqDiff, not_false_eq_true, vM, clK_s, tl_s, tl_n, clr_i, clr_n, clr_a, nI_add, k_isOne hM h8, ho, k_isAsked, hb, bI_0, Bool.true_eq_false, Bool.false_eq_true, not_true_eq_false, not_false_eq_true, if_false, reduceCtorEq]
  · intro σ σ' v hC hb hg
    simp (disch := omega) only [e72_0, e72_1, e72_2, e72_3, e72_4, e72_7, e72_10, e72_12, e72_13, e72_14, e72_15, e72_16, e72_17, e72_18, e72_21, ↓reduceIte, inb_n, ix_n, if_true, ne_eq, Nat.reduceEqDiff, not_false_eq_true, clK_s, tl_s, tl_n, clr_i, clr_n, clr_a, nI_add, vX, c_isSup hC h8, hb, bI_0, Bool.true_eq_false, Bool.false_eq_true, not_true_eq_false, not_false_eq_true, if_false, reduceCtorEq, hg]
  · intro σ σ' v hM hb hg
    simp only [Bool.and_eq_true] at hb
    have h2 : (rg 1 60 yv && rg 0 1 zv) = true := by rw [hb.2.1, hb.2.2]; rfl
    simp (disch := omega) only [e162_0, e162_1, e162_2, e162_5, e162_8, e162_9, e162_10, e162_13, e162_16, e162_17, e162_18, e162_19, e162_20, e162_22, e162_23, e162_24, e162_27, e162_30, e162_32, ↓reduceIte, gM_0, a_94, inb_n, ix_n, if_true, ne_eq, Nat.reduceEqDiff, not_false_eq_true, vM, clK_s, tl_s, tl_n, clr_i, clr_n, clr_a, nI_add, k_isOne hM h8, hb.1, k_isAsked, h2, bI_0, Bool.true_eq_false, Bool.false_eq_true, not_true_eq_false, not_false_eq_true, if_false, reduceCtorEq, hg]
  · simp (disch := omega) only [e102_0, e102_2, e102_4, e102_6, e102_8, e102_9, e102_12, e102_14, e102_17, e102_18, e102_19, e102_22, e102_23, e102_26, e102_29, e102_30, e102_31, e102_34, e102_35, e102_37, e102_38, e102_41, e102_42, e102_45, e102_46, e102_48, e102_49, ↓reduceIte, inb_n, ix_n, if_true, ne_eq, Nat.reduceEqDiff, not_false_eq_true, clK_s, tl_s, tl_n, clr_i, clr_n, clr_a, nI_add, not_true_eq_false]
theorem op_becomes {xv yv zv : Int32} (hI : INV σ A B im) : OK2 σ (Rn E (d + 50) 74 0 [some (.ref 0), some (.int xv), some (.int yv), some (.int zv)] []) (Rn E (d + 50) 165 0 [some (.ref 93), some (.int xv), some (.int yv), some (.int zv)] []) := by
  have h8 := hI.1.2.2.1.1
  have z1 : ¬ nI 2 = nI 0 := by decide +kernel
  have z2 : ¬ nI 2 = nI 1 := by decide +kernel
  refine op_tall (sv := 2) (stz := 1) (lz := 5) (fz := 0) (rz := 6) hI xv yv zv (by omega) (by omega) (by omega) (by omega) (by omega) ?_ ?_ ?_ ?_ ?_
  · intro σ hC hb
    simp (disch := omega) only [e74_0, e74_1, e74_2, e74_3, e74_4, e74_7, e74_10, e74_12, e74_13, e74_14, e74_15, e74_16, e74_17, e74_18, e74_21, ↓reduceIte, inb_n, ix_n, if_true, ne_eq, Nat.reduceEqDiff, not_false_eq_true, clK_s, tl_s, tl_n, clr_i, clr_n, clr_a, nI_add, vX, c_isSup hC h8, hb, bI_0, Bool.true_eq_false, Bool.false_eq_true, not_true_eq_false, not_false_eq_true, if_false, reduceCtorEq]
  · intro σ hM hb
    cases ho : hasB A xv with
    | false => simp (disch := omega) only [e165_0, e165_1, e165_2, e165_5, e165_8, e165_9, e165_10, e165_13, e165_16, e165_17, e165_18, e165_19, e165_20, e165_21, e165_22, e165_23, e165_26, e165_29, e165_31, ↓reduceIte, gM_0, a_94, inb_n, ix_n, if_true, ne_eq, Nat.reduceEqDiff, not_false_eq_true, vM, clK_s, tl_s, tl_n, clr_i, clr_n, clr_a, nI_add, k_isOne hM h8, ho, bI_0, Bool.true_eq_false, Bool.false_eq_true, not_true_eq_false, not_false_eq_true, if_false, reduceCtorEq]
    | true =>
      rw [ho, Bool.true_and] at hb
      simp (disch := omega) only [e165_0, e165_1, e165_2, e165_5, e165_8, e165_9, e165_10, e165_13, e165_16, e165_17, e165_18, e165_19, e165_20, e165_21, e165_22, e165_23, e165_26, e165_29, e165_31, ↓reduceIte, gM_0, a_94, inb_n, ix_n, if_true, ne_eq, Nat.reduceEqDiff, not_false_eq_true, vM, clK_s, tl_s, tl_n, clr_i, clr_n, clr_a, nI_add, k_isOne hM h8, ho, k_isAsked, hb, bI_0, Bool.true_eq_false, Bool.false_eq_true, not_true_eq_false, not_false_eq_true, if_false, reduceCtorEq]
  · intro σ σ' v hC hb hg
    simp (disch := omega) only [e74_0, e74_1, e74_2, e74_3, e74_4, e74_7, e74_10, e74_12, e74_13, e74_14, e74_15, e74_16, e74_17, e74_18, e74_21, ↓reduceIte, inb_n, ix_n, if_true, ne_eq, Nat.reduceEqDiff, not_false_eq_true, clK_s, tl_s, tl_n, clr_i, clr_n, clr_a, nI_add, vX, c_isSup hC h8, hb, bI_0, Bool.true_eq_false, Bool.false_eq_true, not_true_eq_false, not_false_eq_true, if_false, reduceCtorEq, hg]
  · intro σ σ' v hM hb hg
    simp only [Bool.and_eq_true] at hb
    have h2 : (rg 1 60 yv && rg 0 1 zv) = true := by rw [hb.2.1, hb.2.2]; rfl
    simp (disch := omega) only [e165_0, e165_1, e165_2, e165_5, e165_8, e165_9, e165_10, e165_13, e165_16, e165_17, e165_18, e165_19, e165_20, e165_21, e165_22, e165_23, e165_26, e165_29, e165_31, ↓reduceIte, gM_0, a_94, inb_n, ix_n, if_true, ne_eq, Nat.reduceEqDiff, not_false_eq_true, vM, clK_s, tl_s, tl_n, clr_i, clr_n, clr_a, nI_add, k_isOne hM h8, hb.1, k_isAsked, h2, bI_0, Bool.true_eq_false, Bool.false_eq_true, not_true_eq_false, not_false_eq_true, if_false, reduceCtorEq, hg]
  · simp (disch := omega) only [e102_0, e102_2, e102_4, e102_6, e102_8, e102_9, e102_12, e102_14, e102_17, e102_18, e102_19, e102_22, e102_23, e102_26, e102_29, e102_30, e102_31, e102_34, e102_35, e102_37, e102_38, e102_41, e102_42, e102_45, e102_46, e102_48, e102_49, ↓reduceIte, inb_n, ix_n, if_true, ne_eq, Nat.reduceEqDiff, not_false_eq_true, clK_s, tl_s, tl_n, clr_i, clr_n, clr_a, nI_add, z1, z2, not_true_eq_false]
theorem op_loved {xv yv zv : Int32} (hI : INV σ A B im) : OK2 σ (Rn E (d + 50) 73 0 [some (.ref 0), some (.int xv), some (.int yv), some (.int zv)] []) (Rn E (d + 50) 164 0 [some (.ref 93), some (.int xv), some (.int yv), some (.int zv)] []) := by
  obtain ⟨⟨hC, hM, hW, hX, hc, hR⟩, _⟩ := id hI
  have h8 := hW.1
  have e0 := hC.1
  cases hb : (hasB A xv && (rg 1 60 yv && rg 0 1 zv)) with
  | false =>
    refine ok_read (vv := (-1000000001)) hI ?_ ?_
    · simp (disch := omega) only [e73_0, e73_1, e73_2, e73_3, e73_4, e73_7, e73_10, e73_12, e73_13, e73_14, e73_17, e73_20, e73_21, e73_24, e73_26, e73_27, e73_28, e73_29, e73_30, e73_31, e73_32, e73_35, ↓reduceIte, inb_n, ix_n, if_true, ne_eq, Nat.reduceEqDiff, not_false_eq_true, clK_s, tl_s, tl_n, clr_i, clr_n, clr_a, nI_add, vX, c_isSup hC h8, hb, bI_0, Bool.true_eq_false, Bool.false_eq_true, not_true_eq_false, not_false_eq_true, if_false, reduceCtorEq]
    · cases ho : hasB A xv with
      | false => simp (disch := omega) only [e164_0, e164_1, e164_2, e164_5, e164_8, e164_9, e164_10, e164_13, e164_16, e164_17, e164_18, e164_19, e164_20, e164_23, e164_26, e164_28, ↓reduceIte, gM_0, a_94, inb_n, ix_n, if_true, ne_eq, Nat.reduceEqDiff, not_false_eq_true, vM, clK_s, tl_s, tl_n, clr_i, clr_n, clr_a, nI_add, k_isOne hM h8, ho, bI_0, Bool.true_eq_false, Bool.false_eq_true, not_true_eq_false, not_false_eq_true, if_false, reduceCtorEq]
      | true =>
        rw [ho, Bool.true_and] at hb
        simp (disch := omega) only [e164_0, e164_1, e164_2, e164_5, e164_8, e164_9, e164_10, e164_13, e164_16, e164_17, e164_18, e164_19, e164_20, e164_23, e164_26, e164_28, ↓reduceIte, gM_0, a_94, inb_n, ix_n, if_true, ne_eq, Nat.reduceEqDiff, not_false_eq_true, vM, clK_s, tl_s, tl_n, clr_i, clr_n, clr_a, nI_add, k_isOne hM h8, ho, k_isAsked, hb, bI_0, Bool.true_eq_false, Bool.false_eq_true, not_true_eq_false, not_false_eq_true, if_false, reduceCtorEq]
  | true =>
    have hb2 := hb
    simp only [Bool.and_eq_true] at hb2
    obtain ⟨b1, b2, b3⟩ := hb2
    have hask : (rg 1 60 yv && rg 0 1 zv) = true := by rw [b2, b3]; rfl
    obtain ⟨kz, hk, rfl⟩ := hasB_ex b1
    have hr2 := rg_iff.mp b2
    obtain ⟨nz, hn, rfl⟩ := rg_e (n := 60) (xv := yv) rfl (rg_iff.mpr ⟨by omega, hr2.2⟩)
    have hok0 : okQ none := fun x hx => by cases hx
    have href : ∀ σ1 : Nat → Nat → Int32, MR (σ1 94) A → ∃ σ3, Rn E (d + 50) 164 0 [some (.ref 93), some (.int (nI kz)), some (.int (nI nz)), some (.int zv)] [] (shp, σ1) = some (some (.int (if zv = nI 0 then oM (p1 (tlF 1 A kz nz 1 (tN A) 0 none)) else pM (tlF 1 A kz nz 1 (tN A) 0 none))), (shp, σ3)) ∧ Fr [94, 96, 105, 106, 108, 109, 110, 112] σ1 σ3 ∧ MR (σ3 94) A := by
      intro σ1 hM1
      obtain ⟨σ2, p1', p2', p3'⟩ := k_by (E := E) (d := d + 48) hM1 h8
      have hM2 : MR (σ2 94) A := by rw [p2' 94 (by decide)]; exact hM1
      obtain ⟨σ3, q1, q2, q3⟩ := k_loved_l (E := E) (d := d + 41) (nz := nz) (yv := zv) hW hX hk (by omega) (tN A) 0 none σ2 none (by omega) hok0 hM2 p3'
      refine ⟨σ3, ?_, (p2'.mono (by decide)).tr (q2.mono (by decide)), q3⟩
      have hg : Rn E (d + 49) 163 0 [some (.ref 93), some (.int (nI kz)), some (.int (nI nz)), some (.int zv), none, none, none, none] [] (shp, σ1) = some (some (.int (if zv = nI 0 then oM (p1 (tlF 1 A kz nz 1 (tN A) 0 none)) else pM (tlF 1 A kz nz 1 (tN A) 0 none))), (shp, σ3)) := by
        simp (disch := omega) only [e163_0, e163_1, e163_4, e163_5, e163_7, e163_8, e163_10, e163_11, ↓reduceIte, gM_0, a_94, inb_n, ix_n, if_true, ne_eq, Nat.reduceEqDiff, not_false_eq_true, vM, clK_s, tl_s, tl_n, clr_i, clr_n, clr_a, nI_add, p1']
        exact q1
      simp (disch := omega) only [e164_0, e164_1, e164_2, e164_5, e164_8, e164_9, e164_10, e164_13, e164_16, e164_17, e164_18, e164_19, e164_20, e164_23, e164_26, e164_28, ↓reduceIte, gM_0, a_94, inb_n, ix_n, if_true, ne_eq, Nat.reduceEqDiff, not_false_eq_true, vM, clK_s, tl_s, tl_n, clr_i, clr_n, clr_a, nI_add, k_isOne hM1 h8, b1, k_isAsked, hask, bI_0, Bool.true_eq_false, Bool.false_eq_true, not_true_eq_false, not_false_eq_true, if_false, reduceCtorEq, hg]
    by_cases h2 : tN A < 2
    · obtain ⟨σ3, g1, g2, g3⟩ := href σ hM
      have hz : tlF 1 A kz nz 1 (tN A) 0 none = none := by
        have h1 : tN A = 1 := by omega
        have h0 : kz = 0 := by omega
        rw [h1, h0]
        show tlF 1 A 0 nz 1 0 (0 + 1) (if ¬ (1 = 1 ∧ 0 = 0) ∧ _ then _ else none) = none
        rw [if_neg (by simp)]
        rfl
      rw [hz] at g1
      have h2i : ¬ 2 ≤ tN A := by omega
      refine ⟨(-1000000005), σ, σ3, A, B, im, ?_, ?_, hI.same (QT.fr g2) (hC.ext (fun a h1 h2 _ => g2 a (by simp; omega))) g3⟩
      · simp (disch := omega) only [e73_0, e73_1, e73_2, e73_3, e73_4, e73_7, e73_10, e73_12, e73_13, e73_14, e73_17, e73_20, e73_21, e73_24, e73_26, e73_27, e73_28, e73_29, e73_30, e73_31, e73_32, e73_35, ↓reduceIte, inb_n, ix_n, if_true, ne_eq, Nat.reduceEqDiff, not_false_eq_true, clK_s, tl_s, tl_n, clr_i, clr_n, clr_a, nI_add, vX, c_isSup hC h8, hb, bI_0, Bool.true_eq_false, Bool.false_eq_true, not_true_eq_false, not_false_eq_true, if_false, reduceCtorEq, gX_2, gT_0 t36, gT_1 t36, gT_2 t36, gT_3 t36, gT_4 t36, gT_5 t36, gT_6 t36, gT_7 t36, gT_8 t36, gT_9 t36, gT_10 t36, gT_11 t36, gT_12 t36, gT_13 t36, gT_14 t36, gT_15 t36, gT_16 t36, gT_17 t36, pT_10 t36, pT_11 t36, pT_12 t36, pT_13 t36, pT_14 t36, pT_15 t36, pT_16 t36, pT_17 t36, aT_1 t36, aT_2 t36, aT_3 t36, aT_4 t36, aT_5 t36, aT_6 t36, aT_7 t36, aT_8 t36, aT_9 t36, sT_1 t36, sT_2 t36, sT_3 t36, sT_4 t36, sT_5 t36, sT_6 t36, sT_7 t36, sT_8 t36, sT_9 t36, vT t36, e0, nI_leI, h2i]
      · refine Eq.trans g1 ?_
        by_cases hz0 : zv = nI 0 <;> simp [hz0, p1, oM, pM]
    · have h2i : 2 ≤ tN A := by omega
      obtain ⟨σ1, a1, a2⟩ := c_tall_l (E := E) (d := d + 42) (sv := 1) (nz := nz) (stz := 1) (lz := tN A - 1) (yv := zv) hW hX hk (by omega) (by omega) (by omega) (by omega) (by omega) (by omega) (tN A) 0 none σ (by omega) hok0 hC hR
      have hM1 : MR (σ1 94) A := by rw [a2 94 (by omega) (by omega)]; exact hM
      have hC1 : CR σ1 36 A := hC.ext (fun a h1 h2 _ => a2 a (by omega) (by omega))
      obtain ⟨σ3, g1, g2, g3⟩ := href σ1 hM1
      refine ⟨_, σ1, σ3, A, B, im, ?_, g1, hI.same ((QT.f56 a2).tr (QT.fr g2)) (hC1.ext (fun a h1 h2 _ => g2 a (by simp; omega))) g3⟩
      have hg : Rn E (d + 49) 102 0 [some (.ref 0), some (.int (nI 1)), some (.int (nI kz)), some (.int (nI nz)), some (.int zv), none, none, none, none, none] [] (shp, σ) = some (some (.int (if zv = nI 0 then oM (p1 (tlF 1 A kz nz 1 (tN A) 0 none)) else pM (tlF 1 A kz nz 1 (tN A) 0 none))), (shp, σ1)) := by
        simp (disch := omega) only [e102_0, e102_2, e102_4, e102_6, e102_8, e102_9, e102_12, e102_14, e102_17, e102_18, e102_19, e102_22, e102_23, e102_26, e102_29, e102_30, e102_31, e102_34, e102_35, e102_37, e102_38, e102_41, e102_42, e102_45, e102_46, e102_48, e102_49, ↓reduceIte, inb_n, ix_n, if_true, ne_eq, Nat.reduceEqDiff, not_false_eq_true, clK_s, tl_s, tl_n, clr_i, clr_n, clr_a, nI_add, n10, not_true_eq_false, gX_2, gT_0 t36, gT_1 t36, gT_2 t36, gT_3 t36, gT_4 t36, gT_5 t36, gT_6 t36, gT_7 t36, gT_8 t36, gT_9 t36, gT_10 t36, gT_11 t36, gT_12 t36, gT_13 t36, gT_14 t36, gT_15 t36, gT_16 t36, gT_17 t36, pT_10 t36, pT_11 t36, pT_12 t36, pT_13 t36, pT_14 t36, pT_15 t36, pT_16 t36, pT_17 t36, aT_1 t36, aT_2 t36, aT_3 t36, aT_4 t36, aT_5 t36, aT_6 t36, aT_7 t36, aT_8 t36, aT_9 t36, sT_1 t36, sT_2 t36, sT_3 t36, sT_4 t36, sT_5 t36, sT_6 t36, sT_7 t36, sT_8 t36, sT_9 t36, vT t36, e0, pk_sub]
        exact a1
      simp (disch := omega) only [e73_0, e73_1, e73_2, e73_3, e73_4, e73_7, e73_10, e73_12, e73_13, e73_14, e73_17, e73_20, e73_21, e73_24, e73_26, e73_27, e73_28, e73_29, e73_30, e73_31, e73_32, e73_35, ↓reduceIte, inb_n, ix_n, if_true, ne_eq, Nat.reduceEqDiff, not_false_eq_true, clK_s, tl_s, tl_n, clr_i, clr_n, clr_a, nI_add, vX, c_isSup hC h8, hb, bI_0, Bool.true_eq_false, Bool.false_eq_true, not_true_eq_false, not_false_eq_true, if_false, reduceCtorEq, gX_2, gT_0 t36, gT_1 t36, gT_2 t36, gT_3 t36, gT_4 t36, gT_5 t36, gT_6 t36, gT_7 t36, gT_8 t36, gT_9 t36, gT_10 t36, gT_11 t36, gT_12 t36, gT_13 t36, gT_14 t36, gT_15 t36, gT_16 t36, gT_17 t36, pT_10 t36, pT_11 t36, pT_12 t36, pT_13 t36, pT_14 t36, pT_15 t36, pT_16 t36, pT_17 t36, aT_1 t36, aT_2 t36, aT_3 t36, aT_4 t36, aT_5 t36, aT_6 t36, aT_7 t36, aT_8 t36, aT_9 t36, sT_1 t36, sT_2 t36, sT_3 t36, sT_4 t36, sT_5 t36, sT_6 t36, sT_7 t36, sT_8 t36, sT_9 t36, vT t36, e0, nI_leI, h2i, hg]
end Tall
