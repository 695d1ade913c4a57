/-! THE CLASS: a day -/
theorem whF_some {f : Nat → Nat → Int32} {pv : Int32} {nz kz : Nat} (hk : kz < nz) (h1 : f kz 1 = pv) (h2 : ∀ a, a < nz → a ≠ kz → f a 1 ≠ pv) : whF f pv nz 0 = some kz := by
  cases hw : whF f pv nz 0 with
  | none => exact absurd h1 (whF_none hw kz (by omega) (by omega))
  | some jz =>
    obtain ⟨a1, a2, a3⟩ := whF_lt hw
    by_cases hj : jz = kz
    · rw [hj]
    · exact absurd a3 (h2 jz (by omega) hj)
theorem whF_c {f g : Nat → Nat → Int32} {pv : Int32} : ∀ r kz, (∀ a, kz ≤ a → a < kz + r → (f a 1 = pv ↔ g a 1 = pv)) → whF f pv r kz = whF g pv r kz := by
  intro r
  induction r with
  | zero => intro kz _; rfl
  | succ r ih =>
    intro kz hq
    unfold whF
    rw [ih (kz + 1) (fun a h1 h2 => hq a (by omega) (by omega))]
    by_cases h : f kz 1 = pv
    · rw [if_pos h, if_pos ((hq kz (by omega) (by omega)).mp h)]
    · rw [if_neg h, if_neg (fun z => h ((hq kz (by omega) (by omega)).mpr z))]
theorem CR_mv {σ : Nat → Nat → Int32} {h : Nat} {A : Tn} {kz pz oz : Nat} (hC : CR σ h A) (hW : WFp A) (hk : kz < tN A) (ho : tF A kz 1 = nI oz) (ho2 : oz < 20) (hp : pz < 20) (hfree : ∀ a, a < tN A → a ≠ kz → tF A a 1 ≠ nI pz) :
    CR (su (su (su σ (h + 7) oz (-1)) (h + 2) kz (nI pz)) (h + 7) pz (nI kz)) h (tnF A kz 1 (nI pz)) := by
  obtain ⟨c1, c2, c3, c4, c5, c6, c7⟩ := hC
  have hr : ∀ a, a ≠ h + 7 → a ≠ h + 2 → su (su (su σ (h + 7) oz (-1)) (h + 2) kz (nI pz)) (h + 7) pz (nI kz) a = σ a := fun a h1 h2 => by rw [su_row h1, su_row h2, su_row h1]
  refine ⟨?_, ?_, ?_, ?_, ?_, ?_, ?_⟩
  · rw [hr _ (by omega) (by omega)]; exact c1
  · intro a ha j hj
    have ha : a < tN A := ha
    show _ = if a = kz ∧ j = 1 then nI pz else tF A a j
    by_cases hj1 : j = 1
    · subst hj1
      rw [show h + 1 + 1 = h + 2 from rfl, su_row (by omega), su_rf, su_row (by omega)]
      by_cases hak : a = kz
      · rw [hak, pk_us, if_pos ⟨rfl, rfl⟩]
      · rw [pk_un hak, if_neg (fun z => hak z.1)]; exact c2 a ha 1 (by omega)
    · rw [hr _ (by omega) (by omega), if_neg (fun z => hj1 z.2)]; exact c2 a ha j hj
  · intro q hq
    rw [su_rf, su_row (by omega), su_rf]
    have hf : ∀ a b, tF (tnF A kz 1 (nI pz)) a b = if a = kz ∧ b = 1 then nI pz else tF A a b := fun a b => rfl
    have hn : tN (tnF A kz 1 (nI pz)) = tN A := rfl
    unfold spW
    rw [hn]
    by_cases h1 : q = pz
    · rw [h1, pk_us, whF_some (kz := kz) hk (by rw [hf, if_pos ⟨rfl, rfl⟩]) (fun a ha hak => by rw [hf, if_neg (fun z => hak z.1)]; exact hfree a ha hak)]
      rfl
    · rw [pk_un h1]
      have hpq : nI pz ≠ nI q := fun z => h1 ((nI_eq (by omega) (by omega)).mp z).symm
      by_cases h2 : q = oz
      · rw [h2, pk_us]
        cases hw : whF (tF (tnF A kz 1 (nI pz))) (nI oz) (tN A) 0 with
        | none => rfl
        | some jz =>
          exfalso
          obtain ⟨a1, a2, a3⟩ := whF_lt hw
          rw [hf] at a3
          by_cases hj : jz = kz
          · rw [if_pos ⟨hj, rfl⟩] at a3
            rw [h2] at hpq
            exact hpq a3
          · rw [if_neg (fun z => hj z.1)] at a3
            exact hj (hW.2.2.1 jz kz (by omega) hk (a3.trans ho.symm))
      · rw [pk_un h2, c3 q hq]
        unfold spW
        rw [whF_c (f := tF A) (g := tF (tnF A kz 1 (nI pz))) (tN A) 0 (fun a _ ha => ?_)]
        rw [hf]
        by_cases hak : a = kz
        · rw [if_pos ⟨hak, rfl⟩, hak, ho]
          exact iff_of_false (fun z => h2 ((nI_eq (by omega) (by omega)).mp z).symm) hpq
        · rw [if_neg (fun z => hak z.1)]
  · rw [hr _ (by omega) (by omega)]; exact c4
  · rw [hr _ (by omega) (by omega)]; exact c5
  · rw [hr _ (by omega) (by omega)]; exact c6
  · rw [hr _ (by omega) (by omega)]; exact c7
/-- sums -/
def smF (f : Nat → Nat) : Nat → Nat
  | 0 => 0
  | r + 1 => smF f r + f r
theorem smF_add {f g : Nat → Nat} : ∀ n, smF (fun j => f j + g j) n = smF f n + smF g n := by
  intro n
  induction n with
  | zero => rfl
  | succ n ih => simp only [smF, ih]; omega
theorem smF_in {o : Option Nat} : ∀ n, smF (fun j => if o = some j then 1 else 0) n = match o with
    | none => 0
    | some j => if j < n then 1 else 0 := by
  intro n
  induction n with
  | zero => cases o <;> simp [smF]
  | succ n ih =>
    rw [smF, ih]
    cases o with
    | none => simp
    | some j =>
      simp only [Option.some.injEq]
      by_cases h1 : j < n
      · rw [if_pos h1, if_neg (by omega), if_pos (by omega)]
      · rw [if_neg h1]
        by_cases h2 : j = n
        · rw [if_pos h2, if_pos (by omega)]
        · rw [if_neg h2, if_neg (by omega)]
theorem smF_cn {L : Nat → Option Nat} {n : Nat} : ∀ m, (∀ k, k < m → ∀ j, L k = some j → j < n) → smF (fun j => cn (fun k => decide (L k = some j)) m) n = cn (fun k => (L k).isSome) m := by
  intro m
  induction m with
  | zero =>
    intro _
    have : ∀ r, smF (fun _ => 0) r = 0 := by
      intro r
      induction r with
      | zero => rfl
      | succ r ih => rw [smF, ih]
    exact this n
  | succ m ih =>
    intro hL
    have e : (fun j => cn (fun k => decide (L k = some j)) (m + 1)) = (fun j => cn (fun k => decide (L k = some j)) m + (if L m = some j then 1 else 0)) := by
      funext j
      rw [cn_s]
      by_cases hq : L m = some j
      · rw [if_pos (decide_eq_true hq), if_pos hq]
      · rw [if_neg (by rw [decide_eq_false hq]; decide), if_neg hq]
    rw [e, smF_add, ih (fun k hk => hL k (by omega)), smF_in, cn_s]
    congr 1
    cases hm : L m with
    | none => rfl
    | some j =>
      show (if j < n then 1 else 0) = _
      rw [if_pos (hL m (by omega) j hm)]; rfl
theorem smC_eq {A : Tn} : smF (spCn A) (tN A) = spGl A := smF_cn (L := spLk A) (tN A) (fun k _ j hj => spLk_lt hj)
section Live
variable {E : aE} {d h g : Nat} {S : aSt} {σ : Nat → Nat → Int32} {A B : Tn}
theorem c_lookAll_1 {w2 : Option Value} (hT : isT h) (hC : CR σ h A) (hW : WFp A) : ∀ r kz (σ1 : Nat → Nat → Int32), kz + r = tN A → Fr [h + 6] σ σ1 → (∀ jz, jz < kz → σ1 (h + 6) jz = nI 0) →
    ∃ σ2, Rn E d 44 2 [some (.ref h), some (.int (nI kz)), w2] [] (shp, σ1) = Rn E d 44 25 [some (.ref h), some (.int (nI 0)), w2] [] (shp, σ2) ∧ Fr [h + 6] σ σ2 ∧ ∀ jz, jz < tN A → σ2 (h + 6) jz = nI 0 := by
  have hT2 : h = 36 ∨ h = 46 ∨ h = 56 := hT
  have h8 := hW.1
  intro r
  induction r with
  | zero =>
    intro kz σ1 hk hf hz
    have e0 : σ1 h 10 = nI (tN A) := by rw [hf h (by simp)]; exact hC.1
    have h1 : tN A ≤ kz := by omega
    exact ⟨σ1, by simp (disch := omega) only [e44_2, e44_3, e44_4, e44_7, e44_10, e44_11, e44_14, e44_15, e44_16, e44_17, e44_20, e44_23, e44_24, gT_0 hT, gT_1 hT, gT_2 hT, gT_3 hT, gT_4 hT, gT_5 hT, gT_6 hT, gT_7 hT, gT_8 hT, gT_9 hT, gT_10 hT, gT_11 hT, gT_12 hT, gT_13 hT, gT_14 hT, gT_15 hT, gT_16 hT, gT_17 hT, pT_10 hT, pT_11 hT, pT_12 hT, pT_13 hT, pT_14 hT, pT_15 hT, pT_16 hT, pT_17 hT, aT_1 hT, aT_2 hT, aT_3 hT, aT_4 hT, aT_5 hT, aT_6 hT, aT_7 hT, aT_8 hT, aT_9 hT, sT_1 hT, sT_2 hT, sT_3 hT, sT_4 hT, sT_5 hT, sT_6 hT, sT_7 hT, sT_8 hT, sT_9 hT, vT hT, ↓reduceIte, inb_n, ix_n, if_true, ne_eq, Nat.reduceEqDiff, not_false_eq_true, clK_s, tl_s, tl_n, clr_i, clr_n, clr_a, nI_add, e0, nI_leI, h1], hf, fun jz hj => hz jz (by omega)⟩
  | succ r ih =>
    intro kz σ1 hk hf hz
    have e0 : σ1 h 10 = nI (tN A) := by rw [hf h (by simp)]; exact hC.1
    have h1 : ¬ tN A ≤ kz := by omega
    obtain ⟨σ2, h2, h3, h4⟩ := ih (kz + 1) (su σ1 (h + 6) kz (nI 0)) (by omega) (hf.su (by simp)) (by
      intro jz hj
      rw [su_rf]
      by_cases hc : jz = kz
      · rw [hc, pk_us]
      · rw [pk_un (by omega)]; exact hz jz (by omega))
    refine ⟨σ2, ?_, h3, h4⟩
    rw [← h2]
    conv => lhs; rw [e44_2]
    simp (disch := omega) only [e44_3, e44_4, e44_7, e44_10, e44_11, e44_14, e44_15, e44_16, e44_17, e44_20, gT_0 hT, gT_1 hT, gT_2 hT, gT_3 hT, gT_4 hT, gT_5 hT, gT_6 hT, gT_7 hT, gT_8 hT, gT_9 hT, gT_10 hT, gT_11 hT, gT_12 hT, gT_13 hT, gT_14 hT, gT_15 hT, gT_16 hT, gT_17 hT, pT_10 hT, pT_11 hT, pT_12 hT, pT_13 hT, pT_14 hT, pT_15 hT, pT_16 hT, pT_17 hT, aT_1 hT, aT_2 hT, aT_3 hT, aT_4 hT, aT_5 hT, aT_6 hT, aT_7 hT, aT_8 hT, aT_9 hT, sT_1 hT, sT_2 hT, sT_3 hT, sT_4 hT, sT_5 hT, sT_6 hT, sT_7 hT, sT_8 hT, sT_9 hT, vT hT, ↓reduceIte, inb_n, ix_n, if_true, ne_eq, Nat.reduceEqDiff, not_false_eq_true, clK_s, tl_s, tl_n, clr_i, clr_n, clr_a, nI_add, e0, nI_leI, h1]
theorem c_lookAll_2 (hT : isT h) (hX : WFx A) (hW : WFp A) : ∀ r kz (σ1 : Nat → Nat → Int32) (w2 : Option Value), kz + r = tN A → FT h σ σ1 → CR σ1 h A → TR σ1 (tX A) → (∀ jz, jz < tN A → σ1 (h + 6) jz = mk (fun k => decide (spLk A k = some jz)) kz) →
    ∃ σ2, Rn E (d + 4) 44 25 [some (.ref h), some (.int (nI kz)), w2] [] (shp, σ1) = some (none, (shp, σ2)) ∧ FT h σ σ2 ∧ CR σ2 h A ∧ ∀ jz, jz < tN A → σ2 (h + 6) jz = spEy A jz := by
  have hT2 : h = 36 ∨ h = 46 ∨ h = 56 := hT
  have h8 := hW.1
  intro r
  induction r with
  | zero =>
    intro kz σ1 w2 hk hf hC hR hm
    have e0 := hC.1
    have h1 : tN A ≤ kz := by omega
    have h2 : kz = tN A := by omega
    subst h2
    exact ⟨σ1, by simp (disch := omega) only [e44_25, e44_26, e44_27, e44_30, e44_33, e44_34, e44_35, e44_38, e44_39, e44_40, e44_43, e44_44, e44_47, e44_48, e44_49, e44_50, e44_51, e44_52, e44_53, e44_54, e44_55, e44_58, e44_61, gT_0 hT, gT_1 hT, gT_2 hT, gT_3 hT, gT_4 hT, gT_5 hT, gT_6 hT, gT_7 hT, gT_8 hT, gT_9 hT, gT_10 hT, gT_11 hT, gT_12 hT, gT_13 hT, gT_14 hT, gT_15 hT, gT_16 hT, gT_17 hT, pT_10 hT, pT_11 hT, pT_12 hT, pT_13 hT, pT_14 hT, pT_15 hT, pT_16 hT, pT_17 hT, aT_1 hT, aT_2 hT, aT_3 hT, aT_4 hT, aT_5 hT, aT_6 hT, aT_7 hT, aT_8 hT, aT_9 hT, sT_1 hT, sT_2 hT, sT_3 hT, sT_4 hT, sT_5 hT, sT_6 hT, sT_7 hT, sT_8 hT, sT_9 hT, vT hT, ↓reduceIte, inb_n, ix_n, if_true, ne_eq, Nat.reduceEqDiff, not_false_eq_true, clK_s, tl_s, tl_n, clr_i, clr_n, clr_a, nI_add, e0, nI_leI, h1], hf, hC, hm⟩
  | succ r ih =>
    intro kz σ1 w2 hk hf hC hR hm
    have e0 := hC.1
    have hkz : kz < tN A := by omega
    have h1 : ¬ tN A ≤ kz := by omega
    obtain ⟨σ2, v1, v2⟩ := c_lookOf (E := E) (d := d) hT hC hX hR hW hkz
    have hC2 := hC.of3 hT v2
    have hR2 := hR.of3 v2
    have e6 : σ2 (h + 6) = σ1 (h + 6) := v2 _ (by simp)
    have hf2 : FT h σ σ2 := hf.tr (FT.of3 v2)
    rw [e44_25]
    simp (disch := omega) only [e44_26, e44_27, e44_30, e44_33, e44_34, e44_35, e44_38, e44_39, gT_0 hT, gT_1 hT, gT_2 hT, gT_3 hT, gT_4 hT, gT_5 hT, gT_6 hT, gT_7 hT, gT_8 hT, gT_9 hT, gT_10 hT, gT_11 hT, gT_12 hT, gT_13 hT, gT_14 hT, gT_15 hT, gT_16 hT, gT_17 hT, pT_10 hT, pT_11 hT, pT_12 hT, pT_13 hT, pT_14 hT, pT_15 hT, pT_16 hT, pT_17 hT, aT_1 hT, aT_2 hT, aT_3 hT, aT_4 hT, aT_5 hT, aT_6 hT, aT_7 hT, aT_8 hT, aT_9 hT, sT_1 hT, sT_2 hT, sT_3 hT, sT_4 hT, sT_5 hT, sT_6 hT, sT_7 hT, sT_8 hT, sT_9 hT, vT hT, ↓reduceIte, inb_n, ix_n, if_true, ne_eq, Nat.reduceEqDiff, not_false_eq_true, clK_s, tl_s, tl_n, clr_i, clr_n, clr_a, nI_add, e0, nI_leI, h1, v1]
    rw [e44_40]
    simp only [oI_neg (spLk_31 hW)]
    cases hl : spLk A kz with
    | none =>
      simp only [if_true, e44_55, e44_58, ↓reduceIte, inb_n, ix_n, if_true, ne_eq, Nat.reduceEqDiff, not_false_eq_true, clK_s, tl_s, tl_n, clr_i, clr_n, clr_a, nI_add]
      refine ih (kz + 1) σ2 _ (by omega) hf2 hC2 hR2 ?_
      intro jz hj
      rw [e6, mk_s, hm jz hj]
      simp only [hl, reduceCtorEq, decide_false, Bool.false_eq_true, if_false]
    | some oz =>
      have ho : oz < tN A := spLk_lt hl
      have hoz := hm oz ho
      have e7 : σ2 (h + 6) oz = mk (fun k => decide (spLk A k = some oz)) kz := by rw [e6]; exact hoz
      simp (disch := omega) only [reduceCtorEq, if_false, oI, e44_43, e44_44, e44_47, e44_48, e44_49, e44_50, e44_51, e44_52, e44_53, e44_54, e44_55, e44_58, gT_0 hT, gT_1 hT, gT_2 hT, gT_3 hT, gT_4 hT, gT_5 hT, gT_6 hT, gT_7 hT, gT_8 hT, gT_9 hT, gT_10 hT, gT_11 hT, gT_12 hT, gT_13 hT, gT_14 hT, gT_15 hT, gT_16 hT, gT_17 hT, pT_10 hT, pT_11 hT, pT_12 hT, pT_13 hT, pT_14 hT, pT_15 hT, pT_16 hT, pT_17 hT, aT_1 hT, aT_2 hT, aT_3 hT, aT_4 hT, aT_5 hT, aT_6 hT, aT_7 hT, aT_8 hT, aT_9 hT, sT_1 hT, sT_2 hT, sT_3 hT, sT_4 hT, sT_5 hT, sT_6 hT, sT_7 hT, sT_8 hT, sT_9 hT, vT hT, ↓reduceIte, inb_n, ix_n, if_true, ne_eq, Nat.reduceEqDiff, not_false_eq_true, clK_s, tl_s, tl_n, clr_i, clr_n, clr_a, nI_add, e7]
      refine ih (kz + 1) _ _ (by omega) (hf2.pu (by omega) (by omega)) (hC2.ext (fun a _ _ h3 => su_row h3)) (hR2.ft hX.1 (by omega) ((FT.rf (h := h)).pu (by omega) (by omega))) ?_
      intro jz hj
      rw [su_rf, mk_s]
      by_cases hjo : jz = oz
      · subst hjo
        rw [pk_us, if_pos (by rw [hl]; simp)]
      · rw [pk_un hjo, e6, hm jz hj, if_neg (by rw [hl]; simp; exact fun z => hjo z.symm)]
theorem c_lookAll (hT : isT h) (hC : CR σ h A) (hX : WFx A) (hR : TR σ (tX A)) (hW : WFp A) :
    ∃ σ2, Rn E (d + 4) 44 0 [some (.ref h), none, none] [] (shp, σ) = some (none, (shp, σ2)) ∧ FT h σ σ2 ∧ CR σ2 h A ∧ ∀ jz, jz < tN A → σ2 (h + 6) jz = spEy A jz := by
  have hT2 : h = 36 ∨ h = 46 ∨ h = 56 := hT
  obtain ⟨σ1, h1, h2, h3⟩ := c_lookAll_1 (E := E) (d := d + 4) (w2 := none) hT hC hW (tN A) 0 σ (by omega) Fr.rf (fun jz hj => by omega)
  have hf : FT h σ σ1 := fun a a1 a2 => h2 a (by simp; omega)
  simp only [e44_0, e44_1, clr_i, clr_a, clr_n, h1]
  exact c_lookAll_2 hT hX hW (tN A) 0 σ1 none (by omega) hf (hC.ext (fun a _ _ h3 => h2 a (by simpa using h3))) (hR.ft hX.1 (by omega) hf) h3
theorem c_bit {mz : Nat} (hm : mz < 256) : Rn E d 210 0 [some (.int (nI mz))] [] S = some (some (.int (nI (popc mz))), S) := by
  simp only [e210_0, e210_1, e210_2, e210_3, e210_4, e210_7, e210_8, e210_9, e210_10, e210_11, e210_14, e210_15, e210_16, e210_17, e210_18, e210_21, e210_22, e210_23, e210_24, e210_25, e210_26, e210_27, e210_28, e210_29, e210_32, e210_33, e210_34, e210_35, e210_36, e210_38, e210_39, e210_40, e210_41, e210_42, e210_43, e210_45, e210_46, e210_47, e210_48, e210_49, e210_51, e210_52]
  congr 4
  revert mz
  decide +kernel
theorem cn_le {pq : Nat → Bool} {nz : Nat} : cn pq nz ≤ nz := cnF_le nz 0
theorem c_bitE {oz : Nat} (hW : WFp A) : Rn E d 210 0 [some (.int (spEy A oz))] [] S = some (some (.int (nI (spCn A oz))), S) := by
  obtain ⟨bz, h1, h2, h3⟩ := mk_nat (pq := fun kz => decide (spLk A kz = some oz)) hW.1
  have h2 : spEy A oz = nI bz := h2
  have h3 : popc bz = spCn A oz := h3
  rw [h2, c_bit h1, h3]
theorem c_eyesOn {oz : Nat} (hT : isT h) (hC : CR σ h A) (hX : WFx A) (hR : TR σ (tX A)) (hW : WFp A) (ho : oz < tN A) :
    ∃ σ2, Rn E (d + 5) 45 0 [some (.ref h), some (.int (nI oz))] [] (shp, σ) = some (some (.int (nI (spCn A oz))), (shp, σ2)) ∧ FT h σ σ2 ∧ CR σ2 h A := by
  have hT2 : h = 36 ∨ h = 46 ∨ h = 56 := hT
  have h8 := hW.1
  obtain ⟨σ2, v1, v2, v3, v4⟩ := c_lookAll (E := E) (d := d) hT hC hX hR hW
  have e := v4 oz ho
  exact ⟨σ2, by simp (disch := omega) only [e45_0, e45_1, e45_4, e45_5, e45_8, e45_9, e45_10, e45_13, gT_0 hT, gT_1 hT, gT_2 hT, gT_3 hT, gT_4 hT, gT_5 hT, gT_6 hT, gT_7 hT, gT_8 hT, gT_9 hT, gT_10 hT, gT_11 hT, gT_12 hT, gT_13 hT, gT_14 hT, gT_15 hT, gT_16 hT, gT_17 hT, pT_10 hT, pT_11 hT, pT_12 hT, pT_13 hT, pT_14 hT, pT_15 hT, pT_16 hT, pT_17 hT, aT_1 hT, aT_2 hT, aT_3 hT, aT_4 hT, aT_5 hT, aT_6 hT, aT_7 hT, aT_8 hT, aT_9 hT, sT_1 hT, sT_2 hT, sT_3 hT, sT_4 hT, sT_5 hT, sT_6 hT, sT_7 hT, sT_8 hT, sT_9 hT, vT hT, ↓reduceIte, inb_n, ix_n, if_true, ne_eq, Nat.reduceEqDiff, not_false_eq_true, clK_s, tl_s, tl_n, clr_i, clr_n, clr_a, nI_add, v1, e, c_bitE hW], v2, v3⟩
theorem c_held {xv : Int32} : Rn E (d + 1) 98 0 [some (.int xv), some (.int (nI 0)), some (.int (nI 200))] [] S = some (some (.int (wi 200 xv)), S) := by
  simp (disch := omega) only [e98_0, e98_1, e98_2, e98_3, e98_6, e98_9, wi_c]
def grB (A : Tn) (kz : Nat) : Tn := tnC (grA A kz) 3 (tC A 3 + nI (smF (spCn A) kz))
theorem c_growAll_1 {kz : Nat} {w2 w3 w4 : Option Value} (hT : isT h) (hW : WFp A) (hk : kz < tN A) (hC : CR σ h (grB A kz)) (h6 : σ (h + 6) kz = spEy A kz) :
    ∃ σ2 w5 w6 w7, Rn E (d + 2) 47 2 [some (.ref h), some (.int (nI kz)), w2, w3, w4] [] (shp, σ) = Rn E (d + 2) 47 2 [some (.ref h), some (.int (nI (kz + 1))), w5, w6, w7] [] (shp, σ2) ∧ FT h σ σ2 ∧ CR σ2 h (grB A (kz + 1)) ∧ σ2 (h + 6) = σ (h + 6) := by
  have hT2 : h = 36 ∨ h = 46 ∨ h = 56 := hT
  have h8 := hW.1
  obtain ⟨cz, hc, ec⟩ := (hW.2.1 kz hk).2.1
  have e0 : σ h 10 = nI (tN A) := hC.1
  have h1 : ¬ tN A ≤ kz := by omega
  have hcn : spCn A kz ≤ 8 := Nat.le_trans cn_le h8
  have f0 : σ (h + 1) kz = nI cz := by
    rw [hC.k0 hk]
    show (if kz < kz ∧ 0 = 2 then szN A kz else tF A kz 0) = _
    rw [if_neg (by omega), ec]
  have f2 : σ (h + 3) kz = tF A kz 2 := by
    rw [hC.k2 hk]
    exact if_neg (by omega)
  have hv : wi 200 (tF A kz 2 + grK (nI cz) (nI (spCn A kz))) = szN A kz := by unfold szN; rw [ec]
  have hCa : CR (su σ (h + 3) kz (szN A kz)) h (tnF (grB A kz) kz 2 (szN A kz)) := CR_f (j := 2) hC hk (by omega) (by omega)
  have a3 : su σ (h + 3) kz (szN A kz) h 12 = tC A 3 + nI (smF (spCn A) kz) := hCa.gl
  have hCb : CR (su (su σ (h + 3) kz (szN A kz)) h 12 (tC A 3 + nI (smF (spCn A) (kz + 1)))) h (tnC (tnF (grB A kz) kz 2 (szN A kz)) 3 (tC A 3 + nI (smF (spCn A) (kz + 1)))) := CR_c (i := 3) hCa (by omega)
  have a4 : su (su σ (h + 3) kz (szN A kz)) h 12 (tC A 3 + nI (smF (spCn A) (kz + 1))) h 13 = tC A 4 + nI (cn (vaB A) kz) := hCb.va
  have hCc : CR (su (su (su σ (h + 3) kz (szN A kz)) h 12 (tC A 3 + nI (smF (spCn A) (kz + 1)))) h 13 (tC A 4 + nI (cn (vaB A) (kz + 1)))) h (tnC (tnC (tnF (grB A kz) kz 2 (szN A kz)) 3 (tC A 3 + nI (smF (spCn A) (kz + 1)))) 4 (tC A 4 + nI (cn (vaB A) (kz + 1)))) := CR_c (i := 4) hCb (by omega)
  have a5 : su (su (su σ (h + 3) kz (szN A kz)) h 12 (tC A 3 + nI (smF (spCn A) (kz + 1)))) h 13 (tC A 4 + nI (cn (vaB A) (kz + 1))) h 14 = tC A 5 + nI (cn (buB A) kz) := hCc.bu
  have a6 : su (su (su σ (h + 3) kz (szN A kz)) h 12 (tC A 3 + nI (smF (spCn A) (kz + 1)))) h 13 (tC A 4 + nI (cn (vaB A) (kz + 1))) (h + 8) 0 = tC A 6 := hCc.r0
  have hCd : CR (su (su (su (su σ (h + 3) kz (szN A kz)) h 12 (tC A 3 + nI (smF (spCn A) (kz + 1)))) h 13 (tC A 4 + nI (cn (vaB A) (kz + 1)))) h 14 (tC A 5 + nI (cn (buB A) (kz + 1)))) h (tnC (tnC (tnC (tnF (grB A kz) kz 2 (szN A kz)) 3 (tC A 3 + nI (smF (spCn A) (kz + 1)))) 4 (tC A 4 + nI (cn (vaB A) (kz + 1)))) 5 (tC A 5 + nI (cn (buB A) (kz + 1)))) := CR_c (i := 5) hCc (by omega)
  have hgl : tC A 3 + nI (smF (spCn A) kz) + nI (spCn A kz) = tC A 3 + nI (smF (spCn A) (kz + 1)) := by rw [Int32.add_assoc, nI_add]; rfl
  refine ⟨_, some (.int (nI (spCn A kz))), some (.int (tF A kz 2)), some (.int (szN A kz)), ?_, (((FT.rf.pu (by omega) (by omega)).pu (by omega) (by omega)).pu (by omega) (by omega)).pu (by omega) (by omega), CR.tn hCd rfl ?_ ?_ rfl rfl, by rw [su_row (by omega), su_row (by omega), su_row (by omega), su_row (by omega)]⟩
  · have hg2 : ∀ yv : Int32, tC A 5 + nI (cn (buB A) kz) + yv = tC A 5 + nI (cn (buB A) (kz + 1)) → Rn E (d + 2) 47 110 [some (.ref h), some (.int (nI kz)), some (.int (nI (spCn A kz))), some (.int (tF A kz 2)), some (.int (szN A kz))] [.int yv, .int (tC A 5 + nI (cn (buB A) kz)), .ref h] (shp, su (su (su σ (h + 3) kz (szN A kz)) h 12 (tC A 3 + nI (smF (spCn A) (kz + 1)))) h 13 (tC A 4 + nI (cn (vaB A) (kz + 1)))) = Rn E (d + 2) 47 2 [some (.ref h), some (.int (nI (kz + 1))), some (.int (nI (spCn A kz))), some (.int (tF A kz 2)), some (.int (szN A kz))] [] (shp, su (su (su (su σ (h + 3) kz (szN A kz)) h 12 (tC A 3 + nI (smF (spCn A) (kz + 1)))) h 13 (tC A 4 + nI (cn (vaB A) (kz + 1)))) h 14 (tC A 5 + nI (cn (buB A) (kz + 1)))) := by
      intro yv hy
      simp (disch := omega) only [e47_110, e47_111, e47_114, e47_117, gT_0 hT, gT_1 hT, gT_2 hT, gT_3 hT, gT_4 hT, gT_5 hT, gT_6 hT, gT_7 hT, gT_8 hT, gT_9 hT, gT_10 hT, gT_11 hT, gT_12 hT, gT_13 hT, gT_14 hT, gT_15 hT, gT_16 hT, gT_17 hT, pT_10 hT, pT_11 hT, pT_12 hT, pT_13 hT, pT_14 hT, pT_15 hT, pT_16 hT, pT_17 hT, aT_1 hT, aT_2 hT, aT_3 hT, aT_4 hT, aT_5 hT, aT_6 hT, aT_7 hT, aT_8 hT, aT_9 hT, sT_1 hT, sT_2 hT, sT_3 hT, sT_4 hT, sT_5 hT, sT_6 hT, sT_7 hT, sT_8 hT, sT_9 hT, vT hT, ↓reduceIte, inb_n, ix_n, if_true, ne_eq, Nat.reduceEqDiff, not_false_eq_true, clK_s, tl_s, tl_n, clr_i, clr_n, clr_a, nI_add, hy]
    have hg1 : ∀ yv : Int32, tC A 4 + nI (cn (vaB A) kz) + yv = tC A 4 + nI (cn (vaB A) (kz + 1)) → Rn E (d + 2) 47 85 [some (.ref h), some (.int (nI kz)), some (.int (nI (spCn A kz))), some (.int (tF A kz 2)), some (.int (szN A kz))] [.int yv, .int (tC A 4 + nI (cn (vaB A) kz)), .ref h] (shp, su (su σ (h + 3) kz (szN A kz)) h 12 (tC A 3 + nI (smF (spCn A) (kz + 1)))) = Rn E (d + 2) 47 2 [some (.ref h), some (.int (nI (kz + 1))), some (.int (nI (spCn A kz))), some (.int (tF A kz 2)), some (.int (szN A kz))] [] (shp, su (su (su (su σ (h + 3) kz (szN A kz)) h 12 (tC A 3 + nI (smF (spCn A) (kz + 1)))) h 13 (tC A 4 + nI (cn (vaB A) (kz + 1)))) h 14 (tC A 5 + nI (cn (buB A) (kz + 1)))) := by
      intro yv hy
      simp (disch := omega) only [e47_85, e47_86, e47_89, e47_90, e47_91, e47_94, e47_96, e47_97, e47_100, e47_101, gT_0 hT, gT_1 hT, gT_2 hT, gT_3 hT, gT_4 hT, gT_5 hT, gT_6 hT, gT_7 hT, gT_8 hT, gT_9 hT, gT_10 hT, gT_11 hT, gT_12 hT, gT_13 hT, gT_14 hT, gT_15 hT, gT_16 hT, gT_17 hT, pT_10 hT, pT_11 hT, pT_12 hT, pT_13 hT, pT_14 hT, pT_15 hT, pT_16 hT, pT_17 hT, aT_1 hT, aT_2 hT, aT_3 hT, aT_4 hT, aT_5 hT, aT_6 hT, aT_7 hT, aT_8 hT, aT_9 hT, sT_1 hT, sT_2 hT, sT_3 hT, sT_4 hT, sT_5 hT, sT_6 hT, sT_7 hT, sT_8 hT, sT_9 hT, vT hT, ↓reduceIte, inb_n, ix_n, if_true, ne_eq, Nat.reduceEqDiff, not_false_eq_true, clK_s, tl_s, tl_n, clr_i, clr_n, clr_a, nI_add, hy, a5, a6]
      rw [e47_102]
      by_cases hb : tC A 6 < szN A kz
      · have hb2 : ¬ szN A kz ≤ tC A 6 := Int32.not_le.mpr hb
        simp only [hb2, if_false, e47_105, e47_106, e47_109]
        exact hg2 _ (by rw [cn_s, Int32.add_assoc, nI_add]; simp only [buB, hb, decide_true, if_true])
      · have hb2 : szN A kz ≤ tC A 6 := Int32.not_lt.mp hb
        simp only [hb2, if_true, e47_105, e47_106, e47_109]
        exact hg2 _ (by rw [cn_s, Int32.add_assoc, nI_add]; simp only [buB, hb, decide_false, Bool.false_eq_true, if_false])
    rw [e47_2]
    simp (disch := omega) only [e47_3, e47_4, e47_7, e47_10, e47_11, e47_14, e47_15, e47_16, e47_19, e47_20, e47_21, e47_24, e47_25, e47_26, e47_27, e47_28, e47_29, e47_32, e47_33, e47_34, e47_35, e47_38, e47_39, e47_40, e47_43, e47_46, e47_48, e47_49, e47_52, e47_53, e47_55, e47_56, e47_57, e47_58, e47_61, e47_62, e47_63, e47_66, e47_67, e47_68, e47_71, gT_0 hT, gT_1 hT, gT_2 hT, gT_3 hT, gT_4 hT, gT_5 hT, gT_6 hT, gT_7 hT, gT_8 hT, gT_9 hT, gT_10 hT, gT_11 hT, gT_12 hT, gT_13 hT, gT_14 hT, gT_15 hT, gT_16 hT, gT_17 hT, pT_10 hT, pT_11 hT, pT_12 hT, pT_13 hT, pT_14 hT, pT_15 hT, pT_16 hT, pT_17 hT, aT_1 hT, aT_2 hT, aT_3 hT, aT_4 hT, aT_5 hT, aT_6 hT, aT_7 hT, aT_8 hT, aT_9 hT, sT_1 hT, sT_2 hT, sT_3 hT, sT_4 hT, sT_5 hT, sT_6 hT, sT_7 hT, sT_8 hT, sT_9 hT, vT hT, ↓reduceIte, inb_n, ix_n, if_true, ne_eq, Nat.reduceEqDiff, not_false_eq_true, clK_s, tl_s, tl_n, clr_i, clr_n, clr_a, nI_add, e0, nI_leI, h1, h6, c_bitE hW, f0, f2, c_growth hc, c_held, hv, a3, hgl, a4]
    rw [e47_73]
    by_cases hb : szN A kz = nI 0
    · rw [if_neg (fun z => z hb)]
      simp only [e47_76, e47_77, sz_pos hW hk]
      by_cases hd : nI 0 < tF A kz 2
      · simp only [hd, not_true_eq_false, if_false, e47_80, e47_81, e47_84]
        exact hg1 _ (by rw [cn_s, Int32.add_assoc, nI_add]; simp only [vaB, hb, hd, and_self, decide_true, if_true])
      · simp only [hd, not_false_eq_true, if_true, e47_80, e47_81, e47_84]
        exact hg1 _ (by rw [cn_s, Int32.add_assoc, nI_add]; simp only [vaB, hd, and_false, decide_false, Bool.false_eq_true, if_false])
    · simp only [hb, not_false_eq_true, if_true, e47_80, e47_81, e47_84]
      exact hg1 _ (by rw [cn_s, Int32.add_assoc, nI_add]; simp only [vaB, hb, false_and, decide_false, Bool.false_eq_true, if_false])
  · intro a ha j hj
    show (if a = kz ∧ j = 2 then szN A kz else if a < kz ∧ j = 2 then szN A a else tF A a j) = if a < kz + 1 ∧ j = 2 then szN A a else tF A a j
    by_cases g1 : a = kz ∧ j = 2
    · rw [if_pos g1, g1.1, if_pos (by omega)]
    · by_cases g2 : a < kz ∧ j = 2
      · rw [if_neg g1, if_pos g2, if_pos (by omega)]
      · rw [if_neg g1, if_neg g2, if_neg (by omega)]
  · intro i hi hj
    show (if i = 5 then tC A 5 + nI (cn (buB A) (kz + 1)) else if i = 4 then tC A 4 + nI (cn (vaB A) (kz + 1)) else if i = 3 then tC A 3 + nI (smF (spCn A) (kz + 1)) else if i = 3 then tC A 3 + nI (smF (spCn A) kz) else if i = 3 then tC A 3 + nI (spGl A) else if i = 4 then tC A 4 + nI (cn (vaB A) kz) else if i = 5 then tC A 5 + nI (cn (buB A) kz) else tC A i) = if i = 3 then tC A 3 + nI (smF (spCn A) (kz + 1)) else if i = 3 then tC A 3 + nI (spGl A) else if i = 4 then tC A 4 + nI (cn (vaB A) (kz + 1)) else if i = 5 then tC A 5 + nI (cn (buB A) (kz + 1)) else tC A i
    by_cases g5 : i = 5
    · subst g5; rfl
    · by_cases g4 : i = 4
      · subst g4; rfl
      · by_cases g3 : i = 3
        · subst g3; rfl
        · simp only [g3, g4, g5, if_false]
theorem c_growAll_l (hT : isT h) (hW : WFp A) : ∀ r kz (σ1 : Nat → Nat → Int32) (w2 w3 w4 : Option Value), kz + r = tN A → CR σ1 h (grB A kz) → (∀ jz, jz < tN A → σ1 (h + 6) jz = spEy A jz) →
    ∃ σ2, Rn E (d + 2) 47 2 [some (.ref h), some (.int (nI kz)), w2, w3, w4] [] (shp, σ1) = some (none, (shp, σ2)) ∧ FT h σ1 σ2 ∧ CR σ2 h (grA A (tN A)) := by
  have h8 := hW.1
  intro r
  induction r with
  | zero =>
    intro kz σ1 w2 w3 w4 hk hC hc
    have e0 : σ1 h 10 = nI (tN A) := hC.1
    have h1 : tN A ≤ kz := by omega
    have h2 : kz = tN A := by omega
    refine ⟨σ1, by simp (disch := omega) only [e47_0, e47_1, e47_2, e47_3, e47_4, e47_7, e47_10, e47_11, e47_14, e47_15, e47_16, e47_19, e47_20, e47_21, e47_24, e47_25, e47_26, e47_27, e47_28, e47_29, e47_32, e47_33, e47_34, e47_35, e47_38, e47_39, e47_40, e47_43, e47_46, e47_48, e47_49, e47_52, e47_53, e47_55, e47_56, e47_57, e47_58, e47_61, e47_62, e47_63, e47_66, e47_67, e47_68, e47_71, e47_73, e47_76, e47_77, e47_80, e47_81, e47_84, e47_85, e47_86, e47_89, e47_90, e47_91, e47_94, e47_96, e47_97, e47_100, e47_101, e47_102, e47_105, e47_106, e47_109, e47_110, e47_111, e47_114, e47_117, e47_120, gT_0 hT, gT_1 hT, gT_2 hT, gT_3 hT, gT_4 hT, gT_5 hT, gT_6 hT, gT_7 hT, gT_8 hT, gT_9 hT, gT_10 hT, gT_11 hT, gT_12 hT, gT_13 hT, gT_14 hT, gT_15 hT, gT_16 hT, gT_17 hT, pT_10 hT, pT_11 hT, pT_12 hT, pT_13 hT, pT_14 hT, pT_15 hT, pT_16 hT, pT_17 hT, aT_1 hT, aT_2 hT, aT_3 hT, aT_4 hT, aT_5 hT, aT_6 hT, aT_7 hT, aT_8 hT, aT_9 hT, sT_1 hT, sT_2 hT, sT_3 hT, sT_4 hT, sT_5 hT, sT_6 hT, sT_7 hT, sT_8 hT, sT_9 hT, vT hT, ↓reduceIte, inb_n, ix_n, if_true, ne_eq, Nat.reduceEqDiff, not_false_eq_true, clK_s, tl_s, tl_n, clr_i, clr_n, clr_a, nI_add, e0, nI_leI, h1], FT.rf, ?_⟩
    rw [h2] at hC
    refine CR.tn hC rfl (fun _ _ _ _ => rfl) ?_ rfl rfl
    intro i hi hj
    show (if i = 3 then tC A 3 + nI (smF (spCn A) (tN A)) else if i = 3 then tC A 3 + nI (spGl A) else _) = (if i = 3 then tC A 3 + nI (spGl A) else _)
    rw [smC_eq]
    by_cases g3 : i = 3
    · rw [if_pos g3, if_pos g3]
    · rw [if_neg g3]
  | succ r ih =>
    intro kz σ1 w2 w3 w4 hk hC hc
    obtain ⟨σ2, w5, w6, w7, g1, g2, g3, g4⟩ := c_growAll_1 (E := E) (d := d) (w2 := w2) (w3 := w3) (w4 := w4) hT hW (by omega) hC (hc kz (by omega))
    obtain ⟨σ3, b1, b2, b3⟩ := ih (kz + 1) σ2 w5 w6 w7 (by omega) g3 (by intro jz hj; rw [g4]; exact hc jz hj)
    exact ⟨σ3, g1.trans b1, g2.tr b2, b3⟩
theorem c_growAll (hT : isT h) (hW : WFp A) (hC : CR σ h A) (h6 : ∀ jz, jz < tN A → σ (h + 6) jz = spEy A jz) :
    ∃ σ2, Rn E (d + 2) 47 0 [some (.ref h), none, none, none, none] [] (shp, σ) = some (none, (shp, σ2)) ∧ FT h σ σ2 ∧ CR σ2 h (grA A (tN A)) := by
  simp only [e47_0, e47_1, clr_i, clr_a, clr_n]
  refine c_growAll_l hT hW (tN A) 0 σ none none none (by omega) (CR.tn hC rfl ?_ ?_ rfl rfl) h6
  · intro a ha j hj
    show tF A a j = if a < 0 ∧ j = 2 then szN A a else tF A a j
    rw [if_neg (by omega)]
  · intro i hi hj
    show tC A i = if i = 3 then tC A 3 + nI 0 else if i = 3 then tC A 3 + nI (spGl A) else if i = 4 then tC A 4 + nI 0 else if i = 5 then tC A 5 + nI 0 else tC A i
    rw [add_n0, add_n0, add_n0]
    by_cases g3 : i = 3
    · rw [if_pos g3, g3]
    · rw [if_neg g3, if_neg g3]
      by_cases g4 : i = 4
      · rw [if_pos g4, g4]
      · rw [if_neg g4]
        by_cases g5 : i = 5
        · rw [if_pos g5, g5]
        · rw [if_neg g5]
theorem c_settle {kz pz oz : Nat} (hT : isT h) (hC : CR σ h A) (h8 : tN A ≤ 8) (hk : kz < tN A) (ho : tF A kz 1 = nI oz) (ho2 : oz < 20) (hp : pz < 20) :
    Rn E d 34 0 [some (.ref h), some (.int (nI kz)), some (.int (nI pz))] [] (shp, σ) = some (none, (shp, su (su (su σ (h + 7) oz (-1)) (h + 2) kz (nI pz)) (h + 7) pz (nI kz))) := by
  have hT2 : h = 36 ∨ h = 46 ∨ h = 56 := hT
  have q1 := hC.k1 hk
  simp (disch := omega) only [e34_0, e34_1, e34_4, e34_5, e34_8, e34_9, e34_10, e34_11, e34_12, e34_13, e34_16, e34_17, e34_18, e34_19, e34_20, e34_23, e34_24, e34_25, e34_26, gT_0 hT, gT_1 hT, gT_2 hT, gT_3 hT, gT_4 hT, gT_5 hT, gT_6 hT, gT_7 hT, gT_8 hT, gT_9 hT, gT_10 hT, gT_11 hT, gT_12 hT, gT_13 hT, gT_14 hT, gT_15 hT, gT_16 hT, gT_17 hT, pT_10 hT, pT_11 hT, pT_12 hT, pT_13 hT, pT_14 hT, pT_15 hT, pT_16 hT, pT_17 hT, aT_1 hT, aT_2 hT, aT_3 hT, aT_4 hT, aT_5 hT, aT_6 hT, aT_7 hT, aT_8 hT, aT_9 hT, sT_1 hT, sT_2 hT, sT_3 hT, sT_4 hT, sT_5 hT, sT_6 hT, sT_7 hT, sT_8 hT, sT_9 hT, vT hT, ↓reduceIte, inb_n, ix_n, if_true, ne_eq, Nat.reduceEqDiff, not_false_eq_true, clK_s, tl_s, tl_n, clr_i, clr_n, clr_a, nI_add, q1, ho]
theorem c_wander (hT : isT h) (hC : CR σ h B) (hW : WFp B) :
    ∃ σ2, Rn E (d + 1) 48 0 [some (.ref h), none, none, none] [] (shp, σ) = some (none, (shp, σ2)) ∧ FT h σ σ2 ∧ CR σ2 h (wnA B) := by
  have hT2 : h = 36 ∨ h = 46 ∨ h = 56 := hT
  have h8 := hW.1
  obtain ⟨n1, hn1, q1⟩ := zD_n (zz B)
  have q1 : zD (zN (tC B 9)) = nI n1 := q1
  have hCa : CR (su σ h 16 (zN (tC B 9))) h (tnC B 9 (zz B)) := CR_c (i := 9) hC (by omega)
  have a7 : su σ h 16 (zN (tC B 9)) (h + 8) 1 = tC B 7 := hCa.r1
  have a0 : su σ h 16 (zN (tC B 9)) h 10 = nI (tN B) := hCa.1
  have b9 : su σ h 16 (zN (tC B 9)) h 16 = zN (tC B 9) := hCa.z
  have fta : FT h σ (su σ h 16 (zN (tC B 9))) := FT.rf.pu (by omega) (by omega)
  simp (disch := omega) only [e48_0, e48_1, e48_4, e48_6, e48_7, e48_8, e48_9, gT_0 hT, gT_1 hT, gT_2 hT, gT_3 hT, gT_4 hT, gT_5 hT, gT_6 hT, gT_7 hT, gT_8 hT, gT_9 hT, gT_10 hT, gT_11 hT, gT_12 hT, gT_13 hT, gT_14 hT, gT_15 hT, gT_16 hT, gT_17 hT, pT_10 hT, pT_11 hT, pT_12 hT, pT_13 hT, pT_14 hT, pT_15 hT, pT_16 hT, pT_17 hT, aT_1 hT, aT_2 hT, aT_3 hT, aT_4 hT, aT_5 hT, aT_6 hT, aT_7 hT, aT_8 hT, aT_9 hT, sT_1 hT, sT_2 hT, sT_3 hT, sT_4 hT, sT_5 hT, sT_6 hT, sT_7 hT, sT_8 hT, sT_9 hT, vT hT, ↓reduceIte, inb_n, ix_n, if_true, ne_eq, Nat.reduceEqDiff, not_false_eq_true, clK_s, tl_s, tl_n, clr_i, clr_n, clr_a, nI_add, c_draw hT hC.z, rm_n, q1, rem_n, a0]
  rw [e48_12]
  by_cases h0 : 0 < tN B
  · have h1 : ¬ nI (tN B) = nI 0 := fun z => by have := (nI_eq (by omega) (by omega)).mp z; omega
    simp (disch := omega) only [h1, if_false, e48_15, e48_16, e48_17, e48_20, e48_21, gT_0 hT, gT_1 hT, gT_2 hT, gT_3 hT, gT_4 hT, gT_5 hT, gT_6 hT, gT_7 hT, gT_8 hT, gT_9 hT, gT_10 hT, gT_11 hT, gT_12 hT, gT_13 hT, gT_14 hT, gT_15 hT, gT_16 hT, gT_17 hT, pT_10 hT, pT_11 hT, pT_12 hT, pT_13 hT, pT_14 hT, pT_15 hT, pT_16 hT, pT_17 hT, aT_1 hT, aT_2 hT, aT_3 hT, aT_4 hT, aT_5 hT, aT_6 hT, aT_7 hT, aT_8 hT, aT_9 hT, sT_1 hT, sT_2 hT, sT_3 hT, sT_4 hT, sT_5 hT, sT_6 hT, sT_7 hT, sT_8 hT, sT_9 hT, vT hT, ↓reduceIte, inb_n, ix_n, if_true, ne_eq, Nat.reduceEqDiff, not_false_eq_true, clK_s, tl_s, tl_n, clr_i, clr_n, clr_a, nI_add, a7]
    rw [e48_22]
    by_cases hc : nI (n1 % 100) < tC B 7
    · obtain ⟨hw, ew⟩ := whZ_n h0 h8
      have ew : irem (zD (zN (zN (tC B 9)))) (nI (tN B)) = nI (whZ B) := ew
      obtain ⟨pz, hp, ep⟩ := plV_n B
      have ep2 : irem (zD (zN (zN (zN (tC B 9))))) (nI 20) = nI pz := ep
      have hCb : CR (su (su σ h 16 (zN (tC B 9))) h 16 (zN (zN (tC B 9)))) h (tnC (tnC B 9 (zz B)) 9 (zzz B)) := CR_c (i := 9) hCa (by omega)
      have c0 : su (su σ h 16 (zN (tC B 9))) h 16 (zN (zN (tC B 9))) h 10 = nI (tN B) := hCb.1
      have c9 : su (su σ h 16 (zN (tC B 9))) h 16 (zN (zN (tC B 9))) h 16 = zN (zN (tC B 9)) := hCb.z
      have hCc : CR (su (su (su σ h 16 (zN (tC B 9))) h 16 (zN (zN (tC B 9)))) h 16 (zN (zN (zN (tC B 9))))) h (tnC B 9 (zzzz B)) := by
        have := CR_c (xv := zzzz B) (i := 9) hCb (by omega)
        rw [tnC_tnC, tnC_tnC] at this
        exact this
      have ftc : FT h σ (su (su (su σ h 16 (zN (tC B 9))) h 16 (zN (zN (tC B 9)))) h 16 (zN (zN (zN (tC B 9))))) := (fta.pu (by omega) (by omega)).pu (by omega) (by omega)
      have hq : eqT (tnC B 9 (zzzz B)) B := eqT_c (by omega)
      have hfr : spFr (tnC B 9 (zzzz B)) (nI pz) = spFr B (nI pz) := by unfold spFr; rw [hq.w]; rfl
      obtain ⟨oz, ho2, ho⟩ := (hW.2.1 (whZ B) hw).1
      simp (disch := omega) only [hc, if_true, e48_26, e48_27, e48_30, e48_31, e48_34, e48_35, e48_36, e48_37, e48_40, e48_42, e48_43, e48_44, e48_45, e48_46, gT_0 hT, gT_1 hT, gT_2 hT, gT_3 hT, gT_4 hT, gT_5 hT, gT_6 hT, gT_7 hT, gT_8 hT, gT_9 hT, gT_10 hT, gT_11 hT, gT_12 hT, gT_13 hT, gT_14 hT, gT_15 hT, gT_16 hT, gT_17 hT, pT_10 hT, pT_11 hT, pT_12 hT, pT_13 hT, pT_14 hT, pT_15 hT, pT_16 hT, pT_17 hT, aT_1 hT, aT_2 hT, aT_3 hT, aT_4 hT, aT_5 hT, aT_6 hT, aT_7 hT, aT_8 hT, aT_9 hT, sT_1 hT, sT_2 hT, sT_3 hT, sT_4 hT, sT_5 hT, sT_6 hT, sT_7 hT, sT_8 hT, sT_9 hT, vT hT, ↓reduceIte, inb_n, ix_n, if_true, ne_eq, Nat.reduceEqDiff, not_false_eq_true, clK_s, tl_s, tl_n, clr_i, clr_n, clr_a, nI_add, c_draw hT b9, c0, rm_n, ew, c_draw hT c9, ep2, c_isFree hT hCc h8 hp, hfr]
      rw [e48_49]
      simp only [bI_0]
      have hcond : irem (zD (zz B)) (nI 100) < tC B 7 ∧ 0 < tN B := ⟨by rw [show zD (zz B) = nI n1 from q1, rem_n (by omega) (by omega) (by omega)]; exact hc, h0⟩
      cases hf : spFr B (nI pz) with
      | true =>
        simp (disch := omega) only [Bool.true_eq_false, if_false, e48_52, e48_53, e48_54, e48_55, e48_58, gT_0 hT, gT_1 hT, gT_2 hT, gT_3 hT, gT_4 hT, gT_5 hT, gT_6 hT, gT_7 hT, gT_8 hT, gT_9 hT, gT_10 hT, gT_11 hT, gT_12 hT, gT_13 hT, gT_14 hT, gT_15 hT, gT_16 hT, gT_17 hT, pT_10 hT, pT_11 hT, pT_12 hT, pT_13 hT, pT_14 hT, pT_15 hT, pT_16 hT, pT_17 hT, aT_1 hT, aT_2 hT, aT_3 hT, aT_4 hT, aT_5 hT, aT_6 hT, aT_7 hT, aT_8 hT, aT_9 hT, sT_1 hT, sT_2 hT, sT_3 hT, sT_4 hT, sT_5 hT, sT_6 hT, sT_7 hT, sT_8 hT, sT_9 hT, vT hT, ↓reduceIte, inb_n, ix_n, if_true, ne_eq, Nat.reduceEqDiff, not_false_eq_true, clK_s, tl_s, tl_n, clr_i, clr_n, clr_a, nI_add, c_settle hT hCc h8 hw ho ho2 hp]
        refine ⟨_, rfl, ((ftc.pu (by omega) (by omega)).pu (by omega) (by omega)).pu (by omega) (by omega), ?_⟩
        unfold wnA
        rw [if_pos hcond, ep, if_pos hf]
        exact CR_mv hCc (hq.wfp hW) hw ho ho2 hp (fun a ha _ => spW_none (spFr_iff.mp hf).1 a ha)
      | false =>
        simp only [if_true, e48_58]
        refine ⟨_, rfl, ftc, ?_⟩
        unfold wnA
        rw [if_pos hcond, ep, hf, if_neg (by decide)]
        exact hCc
    · simp only [hc, if_false, e48_25]
      refine ⟨_, rfl, fta, ?_⟩
      unfold wnA
      rw [if_neg (fun z => hc (by have := z.1; rw [show zD (zz B) = nI n1 from q1, rem_n (by omega) (by omega) (by omega)] at this; exact this))]
      exact hCa
  · have h1 : tN B = 0 := by omega
    have h2 : nI (tN B) = nI 0 := by rw [h1]
    simp only [h2, if_true, e48_25]
    refine ⟨_, rfl, fta, ?_⟩
    unfold wnA
    rw [if_neg (by omega)]
    exact hCa
theorem c_clamour (hT : isT h) (hC : CR σ h B) (hW : WFp B) :
    ∃ σ2, Rn E (d + 1) 49 0 [some (.ref h), none, none] [] (shp, σ) = some (none, (shp, σ2)) ∧ FT h σ σ2 ∧ CR σ2 h (clA B) := by
  have hT2 : h = 36 ∨ h = 46 ∨ h = 56 := hT
  have h8 := hW.1
  obtain ⟨n1, hn1, q1⟩ := zD_n (zz B)
  have q1 : zD (zN (tC B 9)) = nI n1 := q1
  have hCa : CR (su σ h 16 (zN (tC B 9))) h (tnC B 9 (zz B)) := CR_c (i := 9) hC (by omega)
  have a7 : su σ h 16 (zN (tC B 9)) (h + 8) 2 = tC B 8 := hCa.r2
  have a0 : su σ h 16 (zN (tC B 9)) h 10 = nI (tN B) := hCa.1
  have b9 : su σ h 16 (zN (tC B 9)) h 16 = zN (tC B 9) := hCa.z
  have fta : FT h σ (su σ h 16 (zN (tC B 9))) := FT.rf.pu (by omega) (by omega)
  simp (disch := omega) only [e49_0, e49_1, e49_4, e49_6, e49_7, e49_8, e49_9, gT_0 hT, gT_1 hT, gT_2 hT, gT_3 hT, gT_4 hT, gT_5 hT, gT_6 hT, gT_7 hT, gT_8 hT, gT_9 hT, gT_10 hT, gT_11 hT, gT_12 hT, gT_13 hT, gT_14 hT, gT_15 hT, gT_16 hT, gT_17 hT, pT_10 hT, pT_11 hT, pT_12 hT, pT_13 hT, pT_14 hT, pT_15 hT, pT_16 hT, pT_17 hT, aT_1 hT, aT_2 hT, aT_3 hT, aT_4 hT, aT_5 hT, aT_6 hT, aT_7 hT, aT_8 hT, aT_9 hT, sT_1 hT, sT_2 hT, sT_3 hT, sT_4 hT, sT_5 hT, sT_6 hT, sT_7 hT, sT_8 hT, sT_9 hT, vT hT, ↓reduceIte, inb_n, ix_n, if_true, ne_eq, Nat.reduceEqDiff, not_false_eq_true, clK_s, tl_s, tl_n, clr_i, clr_n, clr_a, nI_add, c_draw hT hC.z, rm_n, q1, rem_n, a0]
  rw [e49_12]
  by_cases h0 : 0 < tN B
  · have h1 : ¬ nI (tN B) = nI 0 := fun z => by have := (nI_eq (by omega) (by omega)).mp z; omega
    simp (disch := omega) only [h1, if_false, e49_15, e49_16, e49_17, e49_20, e49_21, gT_0 hT, gT_1 hT, gT_2 hT, gT_3 hT, gT_4 hT, gT_5 hT, gT_6 hT, gT_7 hT, gT_8 hT, gT_9 hT, gT_10 hT, gT_11 hT, gT_12 hT, gT_13 hT, gT_14 hT, gT_15 hT, gT_16 hT, gT_17 hT, pT_10 hT, pT_11 hT, pT_12 hT, pT_13 hT, pT_14 hT, pT_15 hT, pT_16 hT, pT_17 hT, aT_1 hT, aT_2 hT, aT_3 hT, aT_4 hT, aT_5 hT, aT_6 hT, aT_7 hT, aT_8 hT, aT_9 hT, sT_1 hT, sT_2 hT, sT_3 hT, sT_4 hT, sT_5 hT, sT_6 hT, sT_7 hT, sT_8 hT, sT_9 hT, vT hT, ↓reduceIte, inb_n, ix_n, if_true, ne_eq, Nat.reduceEqDiff, not_false_eq_true, clK_s, tl_s, tl_n, clr_i, clr_n, clr_a, nI_add, a7]
    rw [e49_22]
    by_cases hc : nI (n1 % 100) < tC B 8
    · obtain ⟨hw, ew⟩ := whZ_n h0 h8
      have ew : irem (zD (zN (zN (tC B 9)))) (nI (tN B)) = nI (whZ B) := ew
      have ep2 : irem (zD (zN (zN (zN (tC B 9))))) (nI 30) = noV B := rfl
      have hCb : CR (su (su σ h 16 (zN (tC B 9))) h 16 (zN (zN (tC B 9)))) h (tnC (tnC B 9 (zz B)) 9 (zzz B)) := CR_c (i := 9) hCa (by omega)
      have c0 : su (su σ h 16 (zN (tC B 9))) h 16 (zN (zN (tC B 9))) h 10 = nI (tN B) := hCb.1
      have c9 : su (su σ h 16 (zN (tC B 9))) h 16 (zN (zN (tC B 9))) h 16 = zN (zN (tC B 9)) := hCb.z
      have hCc : CR (su (su (su σ h 16 (zN (tC B 9))) h 16 (zN (zN (tC B 9)))) h 16 (zN (zN (zN (tC B 9))))) h (tnC B 9 (zzzz B)) := by
        have := CR_c (xv := zzzz B) (i := 9) hCb (by omega)
        rw [tnC_tnC, tnC_tnC] at this
        exact this
      have ftc : FT h σ (su (su (su σ h 16 (zN (tC B 9))) h 16 (zN (zN (tC B 9)))) h 16 (zN (zN (zN (tC B 9))))) := (fta.pu (by omega) (by omega)).pu (by omega) (by omega)
      simp (disch := omega) only [hc, if_true, e49_26, e49_27, e49_30, e49_31, e49_34, e49_35, e49_36, e49_37, e49_40, e49_41, e49_42, e49_45, e49_47, e49_48, e49_49, gT_0 hT, gT_1 hT, gT_2 hT, gT_3 hT, gT_4 hT, gT_5 hT, gT_6 hT, gT_7 hT, gT_8 hT, gT_9 hT, gT_10 hT, gT_11 hT, gT_12 hT, gT_13 hT, gT_14 hT, gT_15 hT, gT_16 hT, gT_17 hT, pT_10 hT, pT_11 hT, pT_12 hT, pT_13 hT, pT_14 hT, pT_15 hT, pT_16 hT, pT_17 hT, aT_1 hT, aT_2 hT, aT_3 hT, aT_4 hT, aT_5 hT, aT_6 hT, aT_7 hT, aT_8 hT, aT_9 hT, sT_1 hT, sT_2 hT, sT_3 hT, sT_4 hT, sT_5 hT, sT_6 hT, sT_7 hT, sT_8 hT, sT_9 hT, vT hT, ↓reduceIte, inb_n, ix_n, if_true, ne_eq, Nat.reduceEqDiff, not_false_eq_true, clK_s, tl_s, tl_n, clr_i, clr_n, clr_a, nI_add, c_draw hT b9, c0, rm_n, ew, c_draw hT c9, ep2]
      have hcond : irem (zD (zz B)) (nI 100) < tC B 8 ∧ 0 < tN B := ⟨by rw [show zD (zz B) = nI n1 from q1, rem_n (by omega) (by omega) (by omega)]; exact hc, h0⟩
      refine ⟨_, rfl, ftc.pu (by omega) (by omega), ?_⟩
      unfold clA
      rw [if_pos hcond]
      exact CR_f (j := 3) hCc hw (by omega) (by omega)
    · simp only [hc, if_false, e49_25]
      refine ⟨_, rfl, fta, ?_⟩
      unfold clA
      rw [if_neg (fun z => hc (by have := z.1; rw [show zD (zz B) = nI n1 from q1, rem_n (by omega) (by omega) (by omega)] at this; exact this))]
      exact hCa
  · have h1 : tN B = 0 := by omega
    have h2 : nI (tN B) = nI 0 := by rw [h1]
    simp only [h2, if_true, e49_25]
    refine ⟨_, rfl, fta, ?_⟩
    unfold clA
    rw [if_neg (by omega)]
    exact hCa
theorem c_live_l {nz : Nat} (hn : nz < 2 ^ 31) (hT : isT h) : ∀ r kz (σ1 : Nat → Nat → Int32) (B : Tn), kz + r = nz → CR σ1 h B → WFp B → WFx B → TR σ1 (tX B) →
    ∃ σ2, Rn E (d + 5) 46 2 [some (.ref h), some (.int (nI nz)), some (.int (nI kz))] [] (shp, σ1) = some (none, (shp, σ2)) ∧ FT h σ1 σ2 ∧ CR σ2 h (spDays r B) := by
  have hT2 : h = 36 ∨ h = 46 ∨ h = 56 := hT
  intro r
  induction r with
  | zero =>
    intro kz σ1 B hk hC hW hX hR
    have h1 : nz ≤ kz := by omega
    exact ⟨σ1, by simp (disch := omega) only [e46_0, e46_1, e46_2, e46_3, e46_4, e46_7, e46_8, e46_11, e46_12, e46_15, e46_16, e46_19, e46_20, e46_23, e46_24, e46_25, e46_28, e46_29, e46_30, e46_33, e46_36, e46_39, nI_leI, h1, if_true], FT.rf, hC⟩
  | succ r ih =>
    intro kz σ1 B hk hC hW hX hR
    have h1 : ¬ nz ≤ kz := by omega
    obtain ⟨σ2, a1, a2, a3, a4⟩ := c_lookAll (E := E) (d := d) hT hC hX hR hW
    obtain ⟨σ3, b1, b2, b3⟩ := c_growAll (E := E) (d := d + 2) hT hW a3 a4
    obtain ⟨σ4, g1, g2, g3⟩ := c_wander (E := E) (d := d + 3) hT b3 (WFp_gr hW _)
    obtain ⟨σ5, p1, p2, p3⟩ := c_clamour (E := E) (d := d + 3) hT g3 (WFp_wn (WFp_gr hW _))
    have b1 : Rn E (d + 4) 47 0 [some (.ref h), none, none, none, none] [] (shp, σ2) = some (none, (shp, σ3)) := b1
    have g1 : Rn E (d + 4) 48 0 [some (.ref h), none, none, none] [] (shp, σ3) = some (none, (shp, σ4)) := g1
    have p1 : Rn E (d + 4) 49 0 [some (.ref h), none, none] [] (shp, σ4) = some (none, (shp, σ5)) := p1
    have q15 := p3.dy
    have hC6 : CR (su σ5 h 15 (tC (clA (wnA (grA B (tN B)))) 2 + nI 1)) h (spDay B) := CR_c (i := 2) p3 (by omega)
    have ft : FT h σ1 (su σ5 h 15 (tC (clA (wnA (grA B (tN B)))) 2 + nI 1)) := (((a2.tr b2).tr g2).tr p2).pu (by omega) (by omega)
    obtain ⟨σ7, r1, r2, r3⟩ := ih (kz + 1) _ (spDay B) (by omega) hC6 (WFp_day hW) (WFx_of (day_k (A := B)).2.1 hX) (by rw [(day_k (A := B)).2.1]; exact hR.ft hX.1 (by omega) ft)
    refine ⟨σ7, ?_, ft.tr r2, r3⟩
    rw [e46_2]
    simp (disch := omega) only [e46_0, e46_1, e46_3, e46_4, e46_7, e46_8, e46_11, e46_12, e46_15, e46_16, e46_19, e46_20, e46_23, e46_24, e46_25, e46_28, e46_29, e46_30, e46_33, e46_36, e46_39, gT_0 hT, gT_1 hT, gT_2 hT, gT_3 hT, gT_4 hT, gT_5 hT, gT_6 hT, gT_7 hT, gT_8 hT, gT_9 hT, gT_10 hT, gT_11 hT, gT_12 hT, gT_13 hT, gT_14 hT, gT_15 hT, gT_16 hT, gT_17 hT, pT_10 hT, pT_11 hT, pT_12 hT, pT_13 hT, pT_14 hT, pT_15 hT, pT_16 hT, pT_17 hT, aT_1 hT, aT_2 hT, aT_3 hT, aT_4 hT, aT_5 hT, aT_6 hT, aT_7 hT, aT_8 hT, aT_9 hT, sT_1 hT, sT_2 hT, sT_3 hT, sT_4 hT, sT_5 hT, sT_6 hT, sT_7 hT, sT_8 hT, sT_9 hT, vT hT, ↓reduceIte, inb_n, ix_n, if_true, ne_eq, Nat.reduceEqDiff, not_false_eq_true, clK_s, tl_s, tl_n, clr_i, clr_n, clr_a, nI_add, nI_leI, h1, a1, b1, g1, p1, q15, r1]
theorem c_live {nz : Nat} (hn : nz < 2 ^ 31) (hT : isT h) (hC : CR σ h A) (hW : WFp A) (hX : WFx A) (hR : TR σ (tX A)) :
    ∃ σ2, Rn E (d + 5) 46 0 [some (.ref h), some (.int (nI nz)), none] [] (shp, σ) = some (none, (shp, σ2)) ∧ FT h σ σ2 ∧ CR σ2 h (spDays nz A) := by
  simp only [e46_0, e46_1, clr_i, clr_a]
  exact c_live_l hn hT nz 0 σ A (by omega) hC hW hX hR
end Live
