/-! A DAY: all look -/
def eqT (A B : Tn) : Prop := tN A = tN B ∧ tF A = tF B ∧ tX A = tX B ∧ tC A 50 = tC B 50
theorem eqT.rf {A : Tn} : eqT A A := ⟨rfl, rfl, rfl, rfl⟩
theorem eqT_c {A : Tn} {iz : Nat} {xv : Int32} (h : iz ≠ 50) : eqT (tnC A iz xv) A := ⟨rfl, rfl, rfl, if_neg (fun z => h z.symm)⟩
theorem eqT.w {A B : Tn} (h : eqT A B) (pv : Int32) : spW A pv = spW B pv := by unfold spW; rw [h.1, h.2.1]
theorem eqT.th {A B : Tn} (h : eqT A B) (tall : Int32) (pz : Nat) : thru A tall pz = thru B tall pz := by
  unfold thru
  rw [h.w, h.2.1, h.2.2.2]
theorem eqT.cl {A B : Tn} (h : eqT A B) (tall : Int32) (stz hi : Nat) : ∀ r pz, clF A tall stz hi r pz = clF B tall stz hi r pz := by
  intro r
  induction r with
  | zero => intro pz; rfl
  | succ r ih => intro pz; simp only [clF, h.th, ih]
theorem eqT.see {A B : Tn} (h : eqT A B) (az bz : Nat) : spSee A az bz = spSee B az bz := by
  have hp : ∀ kz, plc A kz = plc B kz := fun kz => by unfold plc; rw [h.2.1]
  unfold spSee spClr
  rw [hp, hp, h.2.1, h.cl]
theorem eqT.lv {A B : Tn} (h : eqT A B) (az bz : Nat) : lkV A az bz = lkV B az bz := by
  have hp : ∀ kz, plc A kz = plc B kz := fun kz => by unfold plc; rw [h.2.1]
  unfold lkV spPl plP farO txV
  rw [hp, hp, h.2.1, h.2.2.1]
theorem eqT.lf {A B : Tn} (h : eqT A B) (az : Nat) : ∀ r kz bo mv, lkF A az r kz bo mv = lkF B az r kz bo mv := by
  intro r
  induction r with
  | zero => intro kz bo mv; rfl
  | succ r ih => intro kz bo mv; simp only [lkF, h.see, h.lv, h.2.1, ih]
theorem eqT.lk {A B : Tn} (h : eqT A B) (az : Nat) : spLk A az = spLk B az := by
  unfold spLk
  rw [h.2.1, h.1, h.lf]
theorem eqT.wfp {A B : Tn} (h : eqT A B) (hW : WFp B) : WFp A := by
  unfold WFp
  rw [h.1, h.2.1, h.2.2.2]
  exact hW
theorem eqT.wfx {A B : Tn} (h : eqT A B) (hX : WFx B) : WFx A := by
  unfold WFx
  rw [h.2.2.1]
  exact hX
theorem tnC_tnC {A : Tn} {iz : Nat} {av bv : Int32} : tnC (tnC A iz av) iz bv = tnC A iz bv := by
  have : (fun a => if a = iz then bv else if a = iz then av else tC A a) = (fun a => if a = iz then bv else tC A a) := by
    funext a; split <;> rfl
  show (tN A, tF A, (fun a => if a = iz then bv else if a = iz then av else tC A a), tX A) = _
  rw [this]; rfl
theorem tnC_id {A : Tn} {iz : Nat} : tnC A iz (tC A iz) = A := by
  have : (fun a => if a = iz then tC A iz else tC A a) = tC A := by
    funext a; split
    · rename_i h; rw [h]
    · rfl
  show (tN A, tF A, (fun a => if a = iz then tC A iz else tC A a), tX A) = _
  rw [this]; rfl
theorem add_n0 (xv : Int32) : xv + nI 0 = xv := by rw [nI_0]; exact Int32.add_zero xv
section Day2
variable {E : aE} {d : Nat} {S : aSt} {σ : Nat → Nat → Int32} {A : Tn}
theorem k_allLook_2 (hW : WFp A) (hX : WFx A) : ∀ r kz (σ1 : Nat → Nat → Int32) (w2 : Option Value), kz + r = tN A → Fr [94, 105, 108, 109] σ σ1 → MR (σ1 94) (tnC A 3 (tC A 3 + nI (cn (fun k => (spLk A k).isSome) kz))) → (∀ jz, jz < tN A → σ1 105 jz = nI (cn (fun k => decide (spLk A k = some jz)) kz)) →
    ∃ σ2, Rn E (d + 5) 147 27 [some (.ref 93), some (.int (nI kz)), w2] [] (shp, σ1) = some (none, (shp, σ2)) ∧ Fr [94, 105, 108, 109] σ σ2 ∧ MR (σ2 94) (tnC A 3 (tC A 3 + nI (spGl A))) ∧ ∀ jz, jz < tN A → σ2 105 jz = nI (spCn A jz) := by
  have h8 := hW.1
  intro r
  induction r with
  | zero =>
    intro kz σ1 w2 hk hf hM hc
    have e0 : σ1 94 0 = nI (tN A) := hM.1
    have h1 : tN A ≤ kz := by omega
    have h2 : kz = tN A := by omega
    subst h2
    exact ⟨σ1, by simp (disch := omega) only [e147_27, e147_28, e147_29, e147_32, e147_33, e147_34, e147_37, e147_38, e147_39, e147_42, e147_43, e147_44, e147_47, e147_48, e147_51, e147_52, e147_53, e147_54, e147_55, e147_56, e147_57, e147_58, e147_61, e147_62, e147_63, e147_64, e147_65, e147_66, e147_67, e147_70, e147_73, gM_0, a_94, inb_n, ix_n, if_true, ne_eq, Nat.reduceEqDiff, not_false_eq_true, vM, clK_s, tl_s, tl_n, clr_i, clr_n, clr_a, nI_add, e0, nI_leI, h1], hf, hM, hc⟩
  | succ r ih =>
    intro kz σ1 w2 hk hf hM hc
    have hkz : kz < tN A := by omega
    have h1 : ¬ tN A ≤ kz := by omega
    have e0 : σ1 94 0 = nI (tN A) := hM.1
    have hq : eqT (tnC A 3 (tC A 3 + nI (cn (fun k => (spLk A k).isSome) kz))) A := eqT_c (by omega)
    obtain ⟨σ2, hw, hf2⟩ := k_looksAt (E := E) (d := d) hM (hq.wfp hW) (hq.wfx hX) (az := kz) hkz
    rw [hq.lk] at hw
    have e94 : σ2 94 = σ1 94 := hf2 94 (by decide)
    have e105 : σ2 105 = σ1 105 := hf2 105 (by decide)
    have hf3 : Fr [94, 105, 108, 109] σ σ2 := hf.tr (hf2.mono (by decide))
    rw [e147_27]
    simp (disch := omega) only [e147_28, e147_29, e147_32, e147_33, e147_34, e147_37, e147_38, e147_39, e147_42, e147_43, gM_0, a_94, inb_n, ix_n, if_true, ne_eq, Nat.reduceEqDiff, not_false_eq_true, vM, clK_s, tl_s, tl_n, clr_i, clr_n, clr_a, nI_add, e0, nI_leI, h1, if_false, hw]
    rw [e147_44]
    simp only [oI_neg (spLk_31 hW)]
    cases hl : spLk A kz with
    | none =>
      simp only [if_true, e147_67, e147_70, gM_0, a_94, inb_n, ix_n, if_true, ne_eq, Nat.reduceEqDiff, not_false_eq_true, vM, clK_s, tl_s, tl_n, clr_i, clr_n, clr_a, nI_add]
      refine ih (kz + 1) σ2 _ (by omega) hf3 ?_ ?_
      · rw [e94, cn_s]
        simp only [hl, Option.isSome_none, Bool.false_eq_true, if_false, Nat.add_zero]
        exact hM
      · intro jz hj
        rw [e105, cn_s, hc jz hj]
        simp only [hl, reduceCtorEq, decide_false, Bool.false_eq_true, if_false, Nat.add_zero]
    | some oz =>
      have ho : oz < tN A := spLk_lt hl
      have h105 := hc oz ho
      have h3 : σ1 94 3 = tC A 3 + nI (cn (fun k => (spLk A k).isSome) kz) := hM.2.2.1 3 (by omega) (by omega)
      simp (disch := omega) only [reduceCtorEq, if_false, oI, e147_47, e147_48, e147_51, e147_52, e147_53, e147_54, e147_55, e147_56, e147_57, e147_58, e147_61, e147_62, e147_63, e147_64, e147_65, e147_66, e147_67, e147_70, gM_0, a_94, inb_n, ix_n, if_true, ne_eq, Nat.reduceEqDiff, not_false_eq_true, vM, clK_s, tl_s, tl_n, clr_i, clr_n, clr_a, nI_add, gM_12, a_105, s_105, s_94, su_row, e94, e105, h105, h3]
      refine ih (kz + 1) _ _ (by omega) ((hf3.su (by decide)).su (by decide)) ?_ ?_
      · rw [su_rf, su_row (by decide), e94, cn_s]
        simp only [hl, Option.isSome_some, if_true]
        have := MR_c (xv := tC A 3 + nI (cn (fun k => (spLk A k).isSome) kz) + nI 1) hM h8 (iz := 3) (by omega)
        rw [tnC_tnC, Int32.add_assoc, nI_add] at this
        rw [Int32.add_assoc, nI_add]
        exact this
      · intro jz hj
        rw [su_row (by decide), su_rf, cn_s, e105]
        by_cases hjo : jz = oz
        · subst hjo
          simp only [hl, pk_us, decide_true, if_true]
        · have : ¬ oz = jz := fun z => hjo z.symm
          rw [pk_un hjo, hc jz hj]
          simp only [hl, Option.some.injEq, this, decide_false, Bool.false_eq_true, if_false, Nat.add_zero]
theorem k_allLook (hM : MR (σ 94) A) (hW : WFp A) (hX : WFx A) :
    ∃ σ2, Rn E (d + 5) 147 0 [some (.ref 93), none, none] [] (shp, σ) = some (none, (shp, σ2)) ∧ Fr [94, 105, 108, 109] σ σ2 ∧ MR (σ2 94) (tnC A 3 (tC A 3 + nI (spGl A))) ∧ ∀ jz, jz < tN A → σ2 105 jz = nI (spCn A jz) := by
  obtain ⟨σ1, h1, h2, h3⟩ := k_allLook_1 (E := E) (d := d + 5) (w2 := none) hM hW (tN A) 0 σ (by omega) Fr.rf (fun jz hj => by omega)
  simp only [e147_0, e147_1, clr_i, clr_a, clr_n, h1]
  refine k_allLook_2 hW hX (tN A) 0 σ1 none (by omega) (h2.mono (by decide)) ?_ ?_
  · rw [h2 94 (by decide)]
    show MR (σ 94) (tnC A 3 (tC A 3 + nI 0))
    rw [add_n0, tnC_id]
    exact hM
  · intro jz hj
    exact h3 jz hj
end Day2
