/-! A DAY: the spec, and the reference's -/
def szN (A : Tn) (kz : Nat) : Int32 := wi 200 (tF A kz 2 + grK (tF A kz 0) (nI (spCn A kz)))
def vaB (A : Tn) (kz : Nat) : Bool := decide (szN A kz = nI 0 ∧ nI 0 < tF A kz 2)
def buB (A : Tn) (kz : Nat) : Bool := decide (tC A 6 < szN A kz)
/-- when so many have grown -/
def grA (A : Tn) (kz : Nat) : Tn := (tN A, fun a b => if a < kz ∧ b = 2 then szN A a else tF A a b, fun i => if i = 3 then tC A 3 + nI (spGl A) else if i = 4 then tC A 4 + nI (cn (vaB A) kz) else if i = 5 then tC A 5 + nI (cn (buB A) kz) else tC A i, tX A)
def zz (B : Tn) : Int32 := zN (tC B 9)
def zzz (B : Tn) : Int32 := zN (zz B)
def zzzz (B : Tn) : Int32 := zN (zzz B)
def whZ (B : Tn) : Nat := ix (irem (zD (zzz B)) (nI (tN B)))
def plV (B : Tn) : Int32 := irem (zD (zzzz B)) (nI 20)
def noV (B : Tn) : Int32 := irem (zD (zzzz B)) (nI 30)
/-- somebody may move, then somebody's noise may change -/
def wnA (B : Tn) : Tn := if irem (zD (zz B)) (nI 100) < tC B 7 ∧ 0 < tN B then (if spFr B (plV B) = true then tnF (tnC B 9 (zzzz B)) (whZ B) 1 (plV B) else tnC B 9 (zzzz B)) else tnC B 9 (zz B)
def clA (B : Tn) : Tn := if irem (zD (zz B)) (nI 100) < tC B 8 ∧ 0 < tN B then tnF (tnC B 9 (zzzz B)) (whZ B) 3 (noV B) else tnC B 9 (zz B)
def dyA (B : Tn) : Tn := tnC B 2 (tC B 2 + nI 1)
def spDay (A : Tn) : Tn := dyA (clA (wnA (grA A (tN A))))
def spDays : Nat → Tn → Tn
  | 0, A => A
  | r + 1, A => spDays r (spDay A)
theorem MR_ext {s : Nat → Int32} {A B : Tn} (h : MR s A) (h1 : tN A = tN B) (h2 : ∀ a, a < tN A → ∀ j, j < 5 → tF A a j = tF B a j) (h3 : ∀ i, 2 ≤ i → i < 10 → tC A i = tC B i) (h4 : tC A 50 = tC B 50) (h5 : tX A = tX B) : MR s B := by
  obtain ⟨a1, a2, a3, a4, a5, a6⟩ := h
  refine ⟨by rw [← h1]; exact a1, ?_, ?_, by rw [← h4]; exact a4, by rw [← h5]; exact a5, by rw [← h5]; exact a6⟩
  · intro kz hk j hj
    rw [← h1] at hk
    rw [← h2 kz hk j hj]; exact a2 kz hk j hj
  · intro i hi hj
    rw [← h3 i hi hj]; exact a3 i hi hj
theorem wi_rg {mz : Nat} {xv : Int32} (hm : mz < 2 ^ 31) : rg 0 mz (wi mz xv) = true := by
  unfold wi
  by_cases h1 : xv < nI 0
  · rw [if_pos h1, rg_nI (by omega)]; simp
  · rw [if_neg h1]
    by_cases h2 : nI mz < xv
    · rw [if_pos h2, rg_nI hm]; simp
    · rw [if_neg h2]
      have a1 := Int32.le_iff_toInt_le.mp (Int32.not_lt.mp h1)
      have a2 := Int32.le_iff_toInt_le.mp (Int32.not_lt.mp h2)
      rw [nI_toInt (by omega)] at a1
      rw [nI_toInt hm] at a2
      exact rg_iff.mpr ⟨by omega, by omega⟩
theorem WFp_gr {A : Tn} (hW : WFp A) (kz : Nat) : WFp (grA A kz) := by
  obtain ⟨h1, h2, h3, h4⟩ := hW
  have hne : ∀ a j, j ≠ 2 → tF (grA A kz) a j = tF A a j := fun a j hj => if_neg (fun z => hj z.2)
  have hc : tC (grA A kz) 50 = tC A 50 := rfl
  refine ⟨h1, ?_, ?_, ?_⟩
  · intro a ha
    obtain ⟨b1, b2, b3, b4, b5⟩ := h2 a ha
    rw [hne a 1 (by omega), hne a 0 (by omega), hne a 3 (by omega), hne a 4 (by omega)]
    refine ⟨b1, b2, ?_, b4, b5⟩
    show rg 0 200 (if a < kz ∧ 2 = 2 then szN A a else tF A a 2) = true
    by_cases hq : a < kz ∧ 2 = 2
    · rw [if_pos hq]; exact wi_rg (mz := 200) (by omega)
    · rw [if_neg hq]; exact b3
  · intro i j hi hj
    rw [hne i 1 (by omega), hne j 1 (by omega)]
    exact h3 i j hi hj
  · intro a ha
    rw [hne a 1 (by omega), hc]
    exact h4 a ha
theorem whF_none {f : Nat → Nat → Int32} {pv : Int32} : ∀ {r kz : Nat}, whF f pv r kz = none → ∀ jz, kz ≤ jz → jz < kz + r → f jz 1 ≠ pv := by
  intro r
  induction r with
  | zero => intro kz _ jz h1 h2; omega
  | succ r ih =>
    intro kz h jz h1 h2
    unfold whF at h
    split at h
    · cases h
    · rename_i hn
      by_cases hj : jz = kz
      · rw [hj]; exact hn
      · exact ih h jz (by omega) (by omega)
theorem spW_none {A : Tn} {pv : Int32} (h : spW A pv = none) : ∀ jz, jz < tN A → tF A jz 1 ≠ pv := fun jz hj => whF_none h jz (by omega) (by omega)
theorem spFr_iff {A : Tn} {pv : Int32} : spFr A pv = true ↔ spW A pv = none ∧ scB (tC A 50) pv = false := by
  unfold spFr
  cases spW A pv <;> cases scB (tC A 50) pv <;> simp
theorem WFp_mv {A : Tn} {kz pz : Nat} (hW : WFp A) (hk : kz < tN A) (hp : pz < 20) (hf : spFr A (nI pz) = true) : WFp (tnF A kz 1 (nI pz)) := by
  obtain ⟨h1, h2, h3, h4⟩ := hW
  obtain ⟨f1, f2⟩ := spFr_iff.mp hf
  have hn := spW_none f1
  have he : tF (tnF A kz 1 (nI pz)) kz 1 = nI pz := if_pos ⟨rfl, rfl⟩
  have ho : ∀ a, a ≠ kz → tF (tnF A kz 1 (nI pz)) a 1 = tF A a 1 := fun a ha => if_neg (fun z => ha z.1)
  have hne : ∀ a j, j ≠ 1 → tF (tnF A kz 1 (nI pz)) a j = tF A a j := fun a j hj => if_neg (fun z => hj z.2)
  refine ⟨h1, ?_, ?_, ?_⟩
  · intro a ha
    obtain ⟨b1, b2, b3, b4, b5⟩ := h2 a ha
    rw [hne a 0 (by omega), hne a 2 (by omega), hne a 3 (by omega), hne a 4 (by omega)]
    refine ⟨?_, b2, b3, b4, b5⟩
    by_cases hq : a = kz
    · rw [hq, he]; exact ⟨pz, hp, rfl⟩
    · rw [ho a hq]; exact b1
  · intro i j hi hj
    by_cases hq : i = kz
    · by_cases hr : j = kz
      · intro _; rw [hq, hr]
      · rw [hq, he, ho j hr]; intro z; exact absurd z.symm (hn j hj)
    · by_cases hr : j = kz
      · rw [hr, he, ho i hq]; intro z; exact absurd z (hn i hi)
      · rw [ho i hq, ho j hr]; exact h3 i j hi hj
  · intro a ha
    show scB (tC A 50) _ = false
    by_cases hq : a = kz
    · rw [hq, he]; exact f2
    · rw [ho a hq]; exact h4 a ha
theorem WFp_no {A : Tn} {kz nz : Nat} (hW : WFp A) (hn : nz ≤ 50) : WFp (tnF A kz 3 (nI nz)) := by
  obtain ⟨h1, h2, h3, h4⟩ := hW
  have hne : ∀ a j, j ≠ 3 → tF (tnF A kz 3 (nI nz)) a j = tF A a j := fun a j hj => if_neg (fun z => hj z.2)
  refine ⟨h1, ?_, ?_, ?_⟩
  · intro a ha
    obtain ⟨b1, b2, b3, b4, b5⟩ := h2 a ha
    rw [hne a 0 (by omega), hne a 1 (by omega), hne a 2 (by omega), hne a 4 (by omega)]
    refine ⟨b1, b2, b3, ?_, b5⟩
    show rg 0 50 (if a = kz ∧ 3 = 3 then nI nz else tF A a 3) = true
    by_cases hq : a = kz ∧ 3 = 3
    · rw [if_pos hq, show (50 : Int) = ((50 : Nat) : Int) from rfl, rg_nI (by omega)]; simpa using hn
    · rw [if_neg hq]; exact b4
  · intro i j hi hj
    rw [hne i 1 (by omega), hne j 1 (by omega)]
    exact h3 i j hi hj
  · intro a ha
    rw [hne a 1 (by omega)]
    exact h4 a ha
theorem plV_n (B : Tn) : ∃ pz, pz < 20 ∧ plV B = nI pz := by
  obtain ⟨nz, hn, en⟩ := zD_n (zzzz B)
  exact ⟨nz % 20, Nat.mod_lt _ (by omega), by unfold plV; rw [en, rem_n (by omega) (by omega) (by omega)]⟩
theorem noV_n (B : Tn) : ∃ pz, pz < 30 ∧ noV B = nI pz := by
  obtain ⟨nz, hn, en⟩ := zD_n (zzzz B)
  exact ⟨nz % 30, Nat.mod_lt _ (by omega), by unfold noV; rw [en, rem_n (by omega) (by omega) (by omega)]⟩
theorem whZ_n {B : Tn} (h0 : 0 < tN B) (h8 : tN B ≤ 8) : whZ B < tN B ∧ irem (zD (zzz B)) (nI (tN B)) = nI (whZ B) := by
  obtain ⟨nz, hn, en⟩ := zD_n (zzz B)
  have h1 : irem (zD (zzz B)) (nI (tN B)) = nI (nz % tN B) := by rw [en, rem_n (by omega) h0 (by omega)]
  have h2 := Nat.mod_lt nz h0
  have h3 : whZ B = nz % tN B := by unfold whZ; rw [h1, ix_n (by omega)]
  rw [h3]
  exact ⟨h2, h1⟩
theorem WFp_wn {B : Tn} (hW : WFp B) : WFp (wnA B) := by
  unfold wnA
  split
  · rename_i hc
    have hq : eqT (tnC B 9 (zzzz B)) B := eqT_c (by omega)
    split
    · rename_i hf
      obtain ⟨pz, hp, ep⟩ := plV_n B
      rw [ep] at hf ⊢
      refine WFp_mv (hq.wfp hW) (whZ_n hc.2 hW.1).1 hp ?_
      unfold spFr at hf ⊢
      rw [hq.w]
      exact hf
    · exact hq.wfp hW
  · exact (eqT_c (A := B) (by omega)).wfp hW
theorem WFp_cl {B : Tn} (hW : WFp B) : WFp (clA B) := by
  unfold clA
  split
  · rename_i hc
    obtain ⟨pz, hp, ep⟩ := noV_n B
    rw [ep]
    exact WFp_no ((eqT_c (A := B) (by omega)).wfp hW) (by omega)
  · exact (eqT_c (A := B) (by omega)).wfp hW
theorem WFp_day {A : Tn} (hW : WFp A) : WFp (spDay A) := (eqT_c (by omega)).wfp (WFp_cl (WFp_wn (WFp_gr hW _)))
/-- what no day changes -/
theorem wn_k {B : Tn} : tN (wnA B) = tN B ∧ tX (wnA B) = tX B ∧ ∀ i, i ≠ 9 → tC (wnA B) i = tC B i := by
  unfold wnA
  split
  · split
    · exact ⟨rfl, rfl, fun i hi => if_neg hi⟩
    · exact ⟨rfl, rfl, fun i hi => if_neg hi⟩
  · exact ⟨rfl, rfl, fun i hi => if_neg hi⟩
theorem cl_k {B : Tn} : tN (clA B) = tN B ∧ tX (clA B) = tX B ∧ ∀ i, i ≠ 9 → tC (clA B) i = tC B i := by
  unfold clA
  split
  · exact ⟨rfl, rfl, fun i hi => if_neg hi⟩
  · exact ⟨rfl, rfl, fun i hi => if_neg hi⟩
theorem day_k {A : Tn} : tN (spDay A) = tN A ∧ tX (spDay A) = tX A ∧ (∀ i, 6 ≤ i → i ≠ 9 → tC (spDay A) i = tC A i) ∧ tC (spDay A) 2 = tC A 2 + nI 1 := by
  have h1 := wn_k (B := grA A (tN A))
  have h2 := cl_k (B := wnA (grA A (tN A)))
  refine ⟨h2.1.trans h1.1, h2.2.1.trans h1.2.1, ?_, ?_⟩
  · intro i hi h9
    show (if i = 2 then _ else tC (clA (wnA (grA A (tN A)))) i) = _
    rw [if_neg (by omega), h2.2.2 i h9, h1.2.2 i h9]
    show (if i = 3 then _ else if i = 4 then _ else if i = 5 then _ else tC A i) = _
    rw [if_neg (by omega), if_neg (by omega), if_neg (by omega)]
  · show tC (clA (wnA (grA A (tN A)))) 2 + nI 1 = _
    rw [h2.2.2 2 (by omega), h1.2.2 2 (by omega)]
    rfl
theorem days_k : ∀ {r : Nat} {A : Tn}, WFp A → WFp (spDays r A) ∧ tN (spDays r A) = tN A ∧ tX (spDays r A) = tX A ∧ (∀ i, 6 ≤ i → i ≠ 9 → tC (spDays r A) i = tC A i) ∧ tC (spDays r A) 2 = tC A 2 + nI r := by
  intro r
  induction r with
  | zero => intro A hW; exact ⟨hW, rfl, rfl, fun _ _ _ => rfl, (add_n0 _).symm⟩
  | succ r ih =>
    intro A hW
    obtain ⟨h1, h2, h3, h4, h5⟩ := ih (WFp_day hW)
    obtain ⟨g1, g2, g3, g4⟩ := day_k (A := A)
    refine ⟨h1, h2.trans g1, h3.trans g2, fun i hi h9 => (h4 i hi h9).trans (g3 i hi h9), ?_⟩
    rw [spDays, h5, g4, Int32.add_assoc, nI_add, Nat.add_comm 1 r]
theorem spDays_s {r : Nat} {A : Tn} : spDays (r + 1) A = spDay (spDays r A) := by
  induction r generalizing A with
  | zero => rfl
  | succ r ih => rw [spDays, ih]; rfl
theorem WFx_of {A B : Tn} (h : tX A = tX B) (hX : WFx B) : WFx A := by
  unfold WFx
  rw [h]
  exact hX
section Goes
variable {E : aE} {d : Nat} {S : aSt} {σ : Nat → Nat → Int32} {A B : Tn}
theorem k_goesOn_1 {kz : Nat} {w2 w3 : Option Value} (hW : WFp A) (hk : kz < tN A) (hM : MR (σ 94) (grA A kz)) (h105 : σ 105 kz = nI (spCn A kz)) :
    ∃ σ2 w5 w6, Rn E (d + 6) 148 6 [some (.ref 93), some (.int (nI kz)), w2, w3] [] (shp, σ) = Rn E (d + 6) 148 6 [some (.ref 93), some (.int (nI (kz + 1))), w5, w6] [] (shp, σ2) ∧ Fr [94] σ σ2 ∧ MR (σ2 94) (grA A (kz + 1)) := by
  have h8 := hW.1
  obtain ⟨cz, hc, ec⟩ := (hW.2.1 kz hk).2.1
  have e0 : σ 94 0 = nI (tN A) := hM.1
  have h1 : ¬ tN A ≤ kz := by omega
  have f0 : σ 94 (10 + 5 * kz + 0) = nI cz := by
    rw [hM.2.1 kz hk 0 (by omega)]
    show (if kz < kz ∧ 0 = 2 then szN A kz else tF A kz 0) = _
    rw [if_neg (by omega), ec]
  have f2 : σ 94 (10 + 5 * kz + 2) = tF A kz 2 := by
    rw [hM.2.1 kz hk 2 (by omega)]
    exact if_neg (by omega)
  have hv : wi 200 (tF A kz 2 + grK (nI cz) (nI (spCn A kz))) = szN A kz := by unfold szN; rw [ec]
  have hMa : MR (su σ 94 (10 + 5 * kz + 2) (szN A kz) 94) (tnF (grA A kz) kz 2 (szN A kz)) := by rw [su_rf]; exact MR_f hM h8 hk (by omega)
  have a4 : su σ 94 (10 + 5 * kz + 2) (szN A kz) 94 4 = tC A 4 + nI (cn (vaB A) kz) := hMa.2.2.1 4 (by omega) (by omega)
  have hMb : MR (su (su σ 94 (10 + 5 * kz + 2) (szN A kz)) 94 4 (tC A 4 + nI (cn (vaB A) (kz + 1))) 94) (tnC (tnF (grA A kz) kz 2 (szN A kz)) 4 (tC A 4 + nI (cn (vaB A) (kz + 1)))) := by rw [su_rf]; exact MR_c hMa h8 (by omega)
  have a5 : su (su σ 94 (10 + 5 * kz + 2) (szN A kz)) 94 4 (tC A 4 + nI (cn (vaB A) (kz + 1))) 94 5 = tC A 5 + nI (cn (buB A) kz) := hMb.2.2.1 5 (by omega) (by omega)
  have a6 : su (su σ 94 (10 + 5 * kz + 2) (szN A kz)) 94 4 (tC A 4 + nI (cn (vaB A) (kz + 1))) 94 6 = tC A 6 := hMb.2.2.1 6 (by omega) (by omega)
  have hMc : MR (su (su (su σ 94 (10 + 5 * kz + 2) (szN A kz)) 94 4 (tC A 4 + nI (cn (vaB A) (kz + 1)))) 94 5 (tC A 5 + nI (cn (buB A) (kz + 1))) 94) (tnC (tnC (tnF (grA A kz) kz 2 (szN A kz)) 4 (tC A 4 + nI (cn (vaB A) (kz + 1)))) 5 (tC A 5 + nI (cn (buB A) (kz + 1)))) := by rw [su_rf]; exact MR_c hMb h8 (by omega)
  refine ⟨_, some (.int (tF A kz 2)), some (.int (szN A kz)), ?_, ((Fr.rf.su (by decide)).su (by decide)).su (by decide), MR_ext hMc rfl ?_ ?_ rfl rfl⟩
  · have hg2 : ∀ yv : Int32, tC A 5 + nI (cn (buB A) kz) + yv = tC A 5 + nI (cn (buB A) (kz + 1)) → Rn E (d + 6) 148 100 [some (.ref 93), some (.int (nI kz)), some (.int (tF A kz 2)), some (.int (szN A kz))] [.int yv, .int (tC A 5 + nI (cn (buB A) kz)), .int (nI 5), .ref 94] (shp, su (su σ 94 (10 + 5 * kz + 2) (szN A kz)) 94 4 (tC A 4 + nI (cn (vaB A) (kz + 1)))) = Rn E (d + 6) 148 6 [some (.ref 93), some (.int (nI (kz + 1))), some (.int (tF A kz 2)), some (.int (szN A kz))] [] (shp, su (su (su σ 94 (10 + 5 * kz + 2) (szN A kz)) 94 4 (tC A 4 + nI (cn (vaB A) (kz + 1)))) 94 5 (tC A 5 + nI (cn (buB A) (kz + 1)))) := by
      intro yv hy
      simp (disch := omega) only [e148_100, e148_101, e148_102, e148_105, gM_0, a_94, inb_n, ix_n, if_true, ne_eq, Nat.reduceEqDiff, not_false_eq_true, vM, clK_s, tl_s, tl_n, clr_i, clr_n, clr_a, nI_add, s_94, hy]
    have hg1 : ∀ yv : Int32, tC A 4 + nI (cn (vaB A) kz) + yv = tC A 4 + nI (cn (vaB A) (kz + 1)) → Rn E (d + 6) 148 75 [some (.ref 93), some (.int (nI kz)), some (.int (tF A kz 2)), some (.int (szN A kz))] [.int yv, .int (tC A 4 + nI (cn (vaB A) kz)), .int (nI 4), .ref 94] (shp, su σ 94 (10 + 5 * kz + 2) (szN A kz)) = Rn E (d + 6) 148 6 [some (.ref 93), some (.int (nI (kz + 1))), some (.int (tF A kz 2)), some (.int (szN A kz))] [] (shp, su (su (su σ 94 (10 + 5 * kz + 2) (szN A kz)) 94 4 (tC A 4 + nI (cn (vaB A) (kz + 1)))) 94 5 (tC A 5 + nI (cn (buB A) (kz + 1)))) := by
      intro yv hy
      simp (disch := omega) only [e148_75, e148_76, e148_77, e148_78, e148_81, e148_82, e148_83, e148_84, e148_85, e148_86, e148_89, e148_91, gM_0, a_94, inb_n, ix_n, if_true, ne_eq, Nat.reduceEqDiff, not_false_eq_true, vM, clK_s, tl_s, tl_n, clr_i, clr_n, clr_a, nI_add, s_94, hy, a5, a6]
      rw [e148_92]
      by_cases hb : tC A 6 < szN A kz
      · have hb2 : ¬ szN A kz ≤ tC A 6 := Int32.not_le.mpr hb
        simp only [hb2, if_false, e148_95, e148_96, e148_99]
        exact hg2 _ (by rw [cn_s, Int32.add_assoc, nI_add]; simp only [buB, hb, decide_true, if_true])
      · have hb2 : szN A kz ≤ tC A 6 := Int32.not_lt.mp hb
        simp only [hb2, if_true, e148_95, e148_96, e148_99]
        exact hg2 _ (by rw [cn_s, Int32.add_assoc, nI_add]; simp only [buB, hb, decide_false, Bool.false_eq_true, if_false])
    rw [e148_6]
    simp (disch := omega) only [e148_7, e148_8, e148_11, e148_12, e148_13, e148_16, e148_17, e148_18, e148_19, e148_22, e148_23, e148_24, e148_25, e148_26, e148_27, e148_28, e148_31, e148_32, e148_35, e148_36, e148_37, e148_40, e148_41, e148_44, e148_47, e148_48, e148_49, e148_50, e148_51, e148_52, e148_55, e148_56, e148_59, e148_60, e148_61, e148_62, gM_0, a_94, inb_n, ix_n, if_true, ne_eq, Nat.reduceEqDiff, not_false_eq_true, vM, clK_s, tl_s, tl_n, clr_i, clr_n, clr_a, nI_add, e0, nI_leI, h1, if_false, k_of, f0, f2, gM_12, a_105, h105, k_grows, hc, k_within, hv, k_sets, a4]
    rw [e148_63]
    by_cases hb : szN A kz = nI 0
    · rw [if_neg (fun z => z hb)]
      simp only [e148_66, e148_67]
      by_cases hd : nI 0 < tF A kz 2
      · have hd2 : ¬ tF A kz 2 ≤ nI 0 := Int32.not_le.mpr hd
        simp only [hd2, if_false, e148_70, e148_71, e148_74]
        exact hg1 _ (by rw [cn_s, Int32.add_assoc, nI_add]; simp only [vaB, hb, hd, and_self, decide_true, if_true])
      · have hd2 : tF A kz 2 ≤ nI 0 := Int32.not_lt.mp hd
        simp only [hd2, if_true, e148_70, e148_71, e148_74]
        exact hg1 _ (by rw [cn_s, Int32.add_assoc, nI_add]; simp only [vaB, hd, and_false, decide_false, Bool.false_eq_true, if_false])
    · simp only [hb, not_false_eq_true, if_true, e148_70, e148_71, e148_74]
      exact hg1 _ (by rw [cn_s, Int32.add_assoc, nI_add]; simp only [vaB, hb, false_and, decide_false, Bool.false_eq_true, if_false])
  · intro a ha j hj
    show (if a = kz ∧ j = 2 then szN A kz else if a < kz ∧ j = 2 then szN A a else tF A a j) = if a < kz + 1 ∧ j = 2 then szN A a else tF A a j
    by_cases g1 : a = kz ∧ j = 2
    · rw [if_pos g1, g1.1, if_pos (by omega)]
    · by_cases g2 : a < kz ∧ j = 2
      · rw [if_neg g1, if_pos g2, if_pos (by omega)]
      · rw [if_neg g1, if_neg g2, if_neg (by omega)]
  · intro i hi hj
    show (if i = 5 then tC A 5 + nI (cn (buB A) (kz + 1)) else if i = 4 then tC A 4 + nI (cn (vaB A) (kz + 1)) else if i = 3 then tC A 3 + nI (spGl A) else if i = 4 then tC A 4 + nI (cn (vaB A) kz) else if i = 5 then tC A 5 + nI (cn (buB A) kz) else tC A i) = if i = 3 then tC A 3 + nI (spGl A) else if i = 4 then tC A 4 + nI (cn (vaB A) (kz + 1)) else if i = 5 then tC A 5 + nI (cn (buB A) (kz + 1)) else tC A i
    by_cases g5 : i = 5
    · subst g5; rfl
    · by_cases g4 : i = 4
      · subst g4; rfl
      · by_cases g3 : i = 3
        · subst g3; rfl
        · rw [if_neg g5, if_neg g4, if_neg g3, if_neg g4, if_neg g5, if_neg g3, if_neg g4, if_neg g5]
theorem k_goesOn_l (hW : WFp A) : ∀ r kz (σ1 : Nat → Nat → Int32) (w2 w3 : Option Value), kz + r = tN A → MR (σ1 94) (grA A kz) → (∀ jz, jz < tN A → σ1 105 jz = nI (spCn A jz)) →
    ∃ σ2 w5 w6, Rn E (d + 6) 148 6 [some (.ref 93), some (.int (nI kz)), w2, w3] [] (shp, σ1) = Rn E (d + 6) 148 108 [some (.ref 93), some (.int (nI (tN A))), w5, w6] [] (shp, σ2) ∧ Fr [94] σ1 σ2 ∧ MR (σ2 94) (grA A (tN A)) := by
  have h8 := hW.1
  intro r
  induction r with
  | zero =>
    intro kz σ1 w2 w3 hk hM hc
    have e0 : σ1 94 0 = nI (tN A) := hM.1
    have h1 : tN A ≤ kz := by omega
    have h2 : kz = tN A := by omega
    refine ⟨σ1, w2, w3, ?_, Fr.rf, by rw [← h2]; exact hM⟩
    rw [e148_6]
    simp (disch := omega) only [e148_7, e148_8, e148_11, e148_12, e148_13, gM_0, a_94, inb_n, ix_n, if_true, ne_eq, Nat.reduceEqDiff, not_false_eq_true, vM, clK_s, tl_s, tl_n, clr_i, clr_n, clr_a, nI_add, e0, nI_leI, h1]
    rw [h2]
  | succ r ih =>
    intro kz σ1 w2 w3 hk hM hc
    obtain ⟨σ2, w5, w6, g1, g2, g3⟩ := k_goesOn_1 (E := E) (d := d) (w2 := w2) (w3 := w3) hW (by omega) hM (hc kz (by omega))
    obtain ⟨σ3, w7, w8, g4, g5, g6⟩ := ih (kz + 1) σ2 w5 w6 (by omega) g3 (by intro jz hj; rw [g2 105 (by decide)]; exact hc jz hj)
    exact ⟨σ3, w7, w8, g1.trans g4, g2.tr g5, g6⟩
theorem k_goesOn_2 {w1 w2 w3 : Option Value} (hM : MR (σ 94) B) (hW : WFp B) :
    ∃ σ2 w5 w6, Rn E (d + 6) 148 108 [some (.ref 93), w1, w2, w3] [] (shp, σ) = Rn E (d + 6) 148 178 [some (.ref 93), w5, w6, w3] [] (shp, σ2) ∧ Fr [94] σ σ2 ∧ MR (σ2 94) (wnA B) := by
  have h8 := hW.1
  obtain ⟨n1, hn1, q1⟩ := zD_n (zz B)
  have q1 : zD (zN (tC B 9)) = nI n1 := q1
  have a9 : σ 94 9 = tC B 9 := hM.2.2.1 9 (by omega) (by omega)
  have hMa : MR (su σ 94 9 (zN (tC B 9)) 94) (tnC B 9 (zz B)) := by rw [su_rf]; exact MR_c hM h8 (by omega)
  have a7 : su σ 94 9 (zN (tC B 9)) 94 7 = tC B 7 := hMa.2.2.1 7 (by omega) (by omega)
  have a0 : su σ 94 9 (zN (tC B 9)) 94 0 = nI (tN B) := hMa.1
  have b9 : su σ 94 9 (zN (tC B 9)) 94 9 = zN (tC B 9) := hMa.2.2.1 9 (by omega) (by omega)
  simp (disch := omega) only [e148_108, e148_109, e148_112, e148_114, e148_115, e148_116, e148_119, e148_121, gM_0, a_94, inb_n, ix_n, if_true, ne_eq, Nat.reduceEqDiff, not_false_eq_true, vM, clK_s, tl_s, tl_n, clr_i, clr_n, clr_a, nI_add, k_drawn a9, rm_n, q1, rem_n, a7]
  rw [e148_122]
  by_cases hc : nI (n1 % 100) < tC B 7
  · have hc2 : ¬ tC B 7 ≤ nI (n1 % 100) := Int32.not_le.mpr hc
    simp (disch := omega) only [hc2, if_false, e148_125, e148_126, e148_129, e148_130, gM_0, a_94, inb_n, ix_n, if_true, ne_eq, Nat.reduceEqDiff, not_false_eq_true, vM, clK_s, tl_s, tl_n, clr_i, clr_n, clr_a, nI_add, a0]
    rw [e148_131]
    by_cases h0 : 0 < tN B
    · have h1 : ¬ tN B ≤ 0 := by omega
      obtain ⟨hw, ew⟩ := whZ_n h0 h8
      have ew : irem (zD (zN (zN (tC B 9)))) (nI (tN B)) = nI (whZ B) := ew
      obtain ⟨pz, hp, ep⟩ := plV_n B
      have ep2 : irem (zD (zN (zN (zN (tC B 9))))) (nI 20) = nI pz := ep
      have hMb : MR (su (su σ 94 9 (zN (tC B 9))) 94 9 (zN (zN (tC B 9))) 94) (tnC (tnC B 9 (zz B)) 9 (zzz B)) := by rw [su_rf]; exact MR_c hMa h8 (by omega)
      have c0 : su (su σ 94 9 (zN (tC B 9))) 94 9 (zN (zN (tC B 9))) 94 0 = nI (tN B) := hMb.1
      have c9 : su (su σ 94 9 (zN (tC B 9))) 94 9 (zN (zN (tC B 9))) 94 9 = zN (zN (tC B 9)) := hMb.2.2.1 9 (by omega) (by omega)
      have hMc : MR (su (su (su σ 94 9 (zN (tC B 9))) 94 9 (zN (zN (tC B 9)))) 94 9 (zN (zN (zN (tC B 9)))) 94) (tnC B 9 (zzzz B)) := by
        rw [su_rf]
        have := MR_c (xv := zzzz B) hMb h8 (iz := 9) (by omega)
        rw [tnC_tnC, tnC_tnC] at this
        exact this
      have hq : eqT (tnC B 9 (zzzz B)) B := eqT_c (by omega)
      have hfr : spFr (tnC B 9 (zzzz B)) (nI pz) = spFr B (nI pz) := by unfold spFr; rw [hq.w]; rfl
      have d1 : su (su (su σ 94 9 (zN (tC B 9))) 94 9 (zN (zN (tC B 9)))) 94 9 (zN (zN (zN (tC B 9)))) 94 (10 + 5 * whZ B + 1) = tF B (whZ B) 1 := hMc.2.1 (whZ B) hw 1 (by omega)
      simp (disch := omega) only [nI_leI, h1, if_false, e148_134, e148_135, e148_138, e148_139, e148_142, e148_143, e148_144, e148_145, e148_146, e148_147, e148_150, e148_152, e148_153, e148_154, e148_155, e148_156, e148_157, e148_158, e148_159, gM_0, a_94, inb_n, ix_n, if_true, ne_eq, Nat.reduceEqDiff, not_false_eq_true, vM, clK_s, tl_s, tl_n, clr_i, clr_n, clr_a, nI_add, k_drawn b9, c0, rm_n, ew, k_drawn c9, ep2, k_isFree hMc h8, hfr]
      rw [e148_162]
      simp only [bI_0]
      have hcond : irem (zD (zz B)) (nI 100) < tC B 7 ∧ 0 < tN B := ⟨by rw [show zD (zz B) = nI n1 from q1, rem_n (by omega) (by omega) (by omega)]; exact hc, h0⟩
      cases hf : spFr B (nI pz) with
      | true =>
        simp (disch := omega) only [Bool.true_eq_false, if_false, e148_165, e148_166, e148_169, e148_170, e148_171, e148_172, e148_175, gM_0, a_94, inb_n, ix_n, if_true, ne_eq, Nat.reduceEqDiff, not_false_eq_true, vM, clK_s, tl_s, tl_n, clr_i, clr_n, clr_a, nI_add, k_sets]
        refine ⟨_, _, _, rfl, (((Fr.rf.su (by decide)).su (by decide)).su (by decide)).su (by decide), ?_⟩
        rw [su_rf]
        have := MR_f (xv := nI pz) hMc h8 (kz := whZ B) (jz := 1) hw (by omega)
        unfold wnA
        rw [if_pos hcond, ep, if_pos hf]
        exact this
      | false =>
        simp (disch := omega) only [if_true, e148_165, e148_166, e148_169, e148_170, e148_171, e148_172, e148_175, gM_0, a_94, inb_n, ix_n, if_true, ne_eq, Nat.reduceEqDiff, not_false_eq_true, vM, clK_s, tl_s, tl_n, clr_i, clr_n, clr_a, nI_add, k_of, d1, k_sets]
        refine ⟨_, _, _, rfl, (((Fr.rf.su (by decide)).su (by decide)).su (by decide)).su (by decide), ?_⟩
        rw [su_rf]
        have := MR_f (xv := tF B (whZ B) 1) hMc h8 (kz := whZ B) (jz := 1) hw (by omega)
        unfold wnA
        rw [if_pos hcond, ep, hf, if_neg (by decide)]
        refine MR_ext this rfl ?_ (fun _ _ _ => rfl) rfl rfl
        intro a ha j hj
        show (if a = whZ B ∧ j = 1 then tF B (whZ B) 1 else tF B a j) = tF B a j
        by_cases g1 : a = whZ B ∧ j = 1
        · rw [if_pos g1, g1.1, g1.2]
        · rw [if_neg g1]
    · have h1 : tN B ≤ 0 := by omega
      simp (disch := omega) only [nI_leI, h1, if_true]
      refine ⟨_, w1, w2, rfl, Fr.rf.su (by decide), ?_⟩
      unfold wnA
      rw [if_neg (by omega)]
      exact hMa
  · have hc2 : tC B 7 ≤ nI (n1 % 100) := Int32.not_lt.mp hc
    simp only [hc2, if_true]
    refine ⟨_, w1, w2, rfl, Fr.rf.su (by decide), ?_⟩
    unfold wnA
    rw [if_neg (fun z => hc (by have := z.1; rw [show zD (zz B) = nI n1 from q1, rem_n (by omega) (by omega) (by omega)] at this; exact this))]
    exact hMa
theorem k_goesOn_3 {w1 w2 w3 : Option Value} (hM : MR (σ 94) B) (hW : WFp B) :
    ∃ σ2, Rn E (d + 6) 148 178 [some (.ref 93), w1, w2, w3] [] (shp, σ) = some (none, (shp, σ2)) ∧ Fr [94] σ σ2 ∧ MR (σ2 94) (dyA (clA B)) := by
  have h8 := hW.1
  have hend : ∀ (σ1 : Nat → Nat → Int32) (C : Tn) (v1 : Option Value), MR (σ1 94) C → tN C ≤ 8 → Fr [94] σ σ1 → ∃ σ2, Rn E (d + 6) 148 229 [some (.ref 93), v1, w2, w3] [] (shp, σ1) = some (none, (shp, σ2)) ∧ Fr [94] σ σ2 ∧ MR (σ2 94) (dyA C) := by
    intro σ1 C v1 g1 g2 g3
    have g4 : σ1 94 2 = tC C 2 := g1.2.2.1 2 (by omega) (by omega)
    simp (disch := omega) only [e148_229, e148_230, e148_233, e148_234, e148_235, e148_236, e148_237, e148_238, e148_239, gM_0, a_94, inb_n, ix_n, if_true, ne_eq, Nat.reduceEqDiff, not_false_eq_true, vM, clK_s, tl_s, tl_n, clr_i, clr_n, clr_a, nI_add, s_94, g4]
    refine ⟨_, rfl, g3.su (by decide), ?_⟩
    rw [su_rf]
    exact MR_c g1 g2 (by omega)
  obtain ⟨n1, hn1, q1⟩ := zD_n (zz B)
  have q1 : zD (zN (tC B 9)) = nI n1 := q1
  have a9 : σ 94 9 = tC B 9 := hM.2.2.1 9 (by omega) (by omega)
  have hMa : MR (su σ 94 9 (zN (tC B 9)) 94) (tnC B 9 (zz B)) := by rw [su_rf]; exact MR_c hM h8 (by omega)
  have a7 : su σ 94 9 (zN (tC B 9)) 94 8 = tC B 8 := hMa.2.2.1 8 (by omega) (by omega)
  have a0 : su σ 94 9 (zN (tC B 9)) 94 0 = nI (tN B) := hMa.1
  have b9 : su σ 94 9 (zN (tC B 9)) 94 9 = zN (tC B 9) := hMa.2.2.1 9 (by omega) (by omega)
  simp (disch := omega) only [e148_178, e148_179, e148_182, e148_184, e148_185, e148_186, e148_189, e148_191, gM_0, a_94, inb_n, ix_n, if_true, ne_eq, Nat.reduceEqDiff, not_false_eq_true, vM, clK_s, tl_s, tl_n, clr_i, clr_n, clr_a, nI_add, k_drawn a9, rm_n, q1, rem_n, a7]
  rw [e148_192]
  by_cases hc : nI (n1 % 100) < tC B 8
  · have hc2 : ¬ tC B 8 ≤ nI (n1 % 100) := Int32.not_le.mpr hc
    simp (disch := omega) only [hc2, if_false, e148_195, e148_196, e148_199, e148_200, gM_0, a_94, inb_n, ix_n, if_true, ne_eq, Nat.reduceEqDiff, not_false_eq_true, vM, clK_s, tl_s, tl_n, clr_i, clr_n, clr_a, nI_add, a0]
    rw [e148_201]
    by_cases h0 : 0 < tN B
    · have h1 : ¬ tN B ≤ 0 := by omega
      obtain ⟨hw, ew⟩ := whZ_n h0 h8
      have ew : irem (zD (zN (zN (tC B 9)))) (nI (tN B)) = nI (whZ B) := ew
      have hMb : MR (su (su σ 94 9 (zN (tC B 9))) 94 9 (zN (zN (tC B 9))) 94) (tnC (tnC B 9 (zz B)) 9 (zzz B)) := by rw [su_rf]; exact MR_c hMa h8 (by omega)
      have c0 : su (su σ 94 9 (zN (tC B 9))) 94 9 (zN (zN (tC B 9))) 94 0 = nI (tN B) := hMb.1
      have c9 : su (su σ 94 9 (zN (tC B 9))) 94 9 (zN (zN (tC B 9))) 94 9 = zN (zN (tC B 9)) := hMb.2.2.1 9 (by omega) (by omega)
      have hMc : MR (su (su (su σ 94 9 (zN (tC B 9))) 94 9 (zN (zN (tC B 9)))) 94 9 (zN (zN (zN (tC B 9)))) 94) (tnC B 9 (zzzz B)) := by
        rw [su_rf]
        have := MR_c (xv := zzzz B) hMb h8 (iz := 9) (by omega)
        rw [tnC_tnC, tnC_tnC] at this
        exact this
      have ep2 : irem (zD (zN (zN (zN (tC B 9))))) (nI 30) = noV B := rfl
      simp (disch := omega) only [nI_leI, h1, if_false, e148_204, e148_205, e148_208, e148_209, e148_212, e148_213, e148_214, e148_215, e148_216, e148_217, e148_218, e148_219, e148_220, e148_223, e148_225, e148_226, gM_0, a_94, inb_n, ix_n, if_true, ne_eq, Nat.reduceEqDiff, not_false_eq_true, vM, clK_s, tl_s, tl_n, clr_i, clr_n, clr_a, nI_add, k_drawn b9, c0, rm_n, ew, k_drawn c9, ep2, k_sets]
      have hcond : irem (zD (zz B)) (nI 100) < tC B 8 ∧ 0 < tN B := ⟨by rw [show zD (zz B) = nI n1 from q1, rem_n (by omega) (by omega) (by omega)]; exact hc, h0⟩
      have hX : clA B = tnF (tnC B 9 (zzzz B)) (whZ B) 3 (noV B) := by unfold clA; rw [if_pos hcond]
      rw [hX]
      refine hend _ _ _ ?_ h8 ((((Fr.rf.su (by decide)).su (by decide)).su (by decide)).su (by decide))
      rw [su_rf]
      exact MR_f hMc h8 hw (by omega)
    · have h1 : tN B ≤ 0 := by omega
      simp (disch := omega) only [nI_leI, h1, if_true]
      have hX : clA B = tnC B 9 (zz B) := by unfold clA; rw [if_neg (by omega)]
      rw [hX]
      exact hend _ _ _ hMa h8 (Fr.rf.su (by decide))
  · have hc2 : tC B 8 ≤ nI (n1 % 100) := Int32.not_lt.mp hc
    simp only [hc2, if_true]
    have hX : clA B = tnC B 9 (zz B) := by
      unfold clA
      rw [if_neg (fun z => hc (by have := z.1; rw [show zD (zz B) = nI n1 from q1, rem_n (by omega) (by omega) (by omega)] at this; exact this))]
    rw [hX]
    exact hend _ _ _ hMa h8 (Fr.rf.su (by decide))
theorem k_goesOn (hM : MR (σ 94) A) (hW : WFp A) (hX : WFx A) :
    ∃ σ2, Rn E (d + 6) 148 0 [some (.ref 93), none, none, none] [] (shp, σ) = some (none, (shp, σ2)) ∧ Fr [94, 105, 108, 109] σ σ2 ∧ MR (σ2 94) (spDay A) := by
  have h8 := hW.1
  obtain ⟨σ1, g1, g2, g3, g4⟩ := k_allLook (E := E) (d := d) hM hW hX
  have g3 : MR (σ1 94) (grA A 0) := by
    refine MR_ext g3 rfl ?_ ?_ rfl rfl
    · intro a ha j hj
      show tF A a j = if a < 0 ∧ j = 2 then szN A a else tF A a j
      rw [if_neg (by omega)]
    · intro i hi hj
      show (if i = 3 then tC A 3 + nI (spGl A) else tC A i) = if i = 3 then tC A 3 + nI (spGl A) else if i = 4 then tC A 4 + nI 0 else if i = 5 then tC A 5 + nI 0 else tC A i
      by_cases q3 : i = 3
      · rw [if_pos q3, if_pos q3]
      · rw [if_neg q3, if_neg q3]
        by_cases q4 : i = 4
        · rw [if_pos q4, q4, add_n0]
        · rw [if_neg q4]
          by_cases q5 : i = 5
          · rw [if_pos q5, q5, add_n0]
          · rw [if_neg q5]
  simp (disch := omega) only [e148_0, e148_1, e148_4, e148_5, gM_0, a_94, inb_n, ix_n, if_true, ne_eq, Nat.reduceEqDiff, not_false_eq_true, vM, clK_s, tl_s, tl_n, clr_i, clr_n, clr_a, nI_add, g1]
  obtain ⟨σ2, w5, w6, b1, b2, b3⟩ := k_goesOn_l (E := E) (d := d) hW (tN A) 0 σ1 none none (by omega) g3 g4
  rw [b1]
  obtain ⟨σ3, w7, w8, c1, c2, c3⟩ := k_goesOn_2 (E := E) (d := d) (w1 := some (.int (nI (tN A)))) (w2 := w5) (w3 := w6) b3 (WFp_gr hW _)
  rw [c1]
  obtain ⟨σ4, e1, e2, e3⟩ := k_goesOn_3 (E := E) (d := d) (w1 := w7) (w2 := w8) (w3 := w6) c3 (WFp_wn (WFp_gr hW _))
  exact ⟨σ4, e1, g2.tr ((b2.tr (c2.tr e2)).mono (by decide)), e3⟩
theorem k_goesOnMany_l {nz : Nat} (hn : nz < 2 ^ 31) : ∀ r kz (σ1 : Nat → Nat → Int32) (B : Tn), kz + r = nz → MR (σ1 94) B → WFp B → WFx B →
    ∃ σ2, Rn E (d + 7) 149 2 [some (.ref 93), some (.int (nI nz)), some (.int (nI kz))] [] (shp, σ1) = some (none, (shp, σ2)) ∧ Fr [94, 105, 108, 109] σ1 σ2 ∧ MR (σ2 94) (spDays r B) := by
  intro r
  induction r with
  | zero =>
    intro kz σ1 B hk hM hW hX
    have h1 : nz ≤ kz := by omega
    exact ⟨σ1, by simp (disch := omega) only [e149_0, e149_1, e149_2, e149_3, e149_4, e149_7, e149_8, e149_11, e149_14, e149_17, nI_leI, h1, if_true], Fr.rf, hM⟩
  | succ r ih =>
    intro kz σ1 B hk hM hW hX
    have h1 : ¬ nz ≤ kz := by omega
    obtain ⟨σ2, g1, g2, g3⟩ := k_goesOn (E := E) (d := d) hM hW hX
    obtain ⟨σ3, b1, b2, b3⟩ := ih (kz + 1) σ2 (spDay B) (by omega) g3 (WFp_day hW) (WFx_of (day_k (A := B)).2.1 hX)
    refine ⟨σ3, ?_, g2.tr b2, b3⟩
    rw [e149_2]
    simp (disch := omega) only [e149_0, e149_1, e149_3, e149_4, e149_7, e149_8, e149_11, e149_14, e149_17, gM_0, a_94, inb_n, ix_n, if_true, ne_eq, Nat.reduceEqDiff, not_false_eq_true, vM, clK_s, tl_s, tl_n, clr_i, clr_n, clr_a, nI_add, nI_leI, h1, if_false, g1, b1]
theorem k_goesOnMany {nz : Nat} (hn : nz < 2 ^ 31) (hM : MR (σ 94) A) (hW : WFp A) (hX : WFx A) :
    ∃ σ2, Rn E (d + 7) 149 0 [some (.ref 93), some (.int (nI nz)), none] [] (shp, σ) = some (none, (shp, σ2)) ∧ Fr [94, 105, 108, 109] σ σ2 ∧ MR (σ2 94) (spDays nz A) := by
  simp only [e149_0, e149_1, clr_i, clr_a]
  exact k_goesOnMany_l hn nz 0 σ A (by omega) hM hW hX
end Goes
