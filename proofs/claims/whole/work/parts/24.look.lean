/-! LOOKING: the spec, and the reference's pulls and looks -/
/-- names, in their order a, b, c -/
def nv (key : Nat) (av bv cv lv : Int32) : Int32 := if key = 0 then (if lv = nI 115 then av else if lv = nI 110 then bv else cv) else if key = 1 then (if lv = nI 103 then av else bv) else (if lv = nI 115 then av else bv)
def txV (A : Tn) (jz : Nat) (av bv cv : Int32) : Int32 := match (tX A)[jz]? with
  | none => 0
  | some tx => evT (nv tx.1 av bv cv) tx.2.2
def wi (mz : Nat) (xv : Int32) : Int32 := if xv < nI 0 then nI 0 else if nI mz < xv then nI mz else xv
def ofB (xv yv : Int32) : Int32 := if xv < yv then yv - xv else xv - yv
def plK (kv xv : Int32) : Int32 := if kv = nI 1 then xv + nI 15 else if kv = nI 3 then nI 2 * (xv + nI 15) else if kv = nI 2 then xv / nI 2 else if kv = nI 4 then xv / nI 2 else xv
def plP (A : Tn) (oz : Nat) (far : Int32) : Int32 := match lastK (tX A) 0 with
  | none => tF A oz 2 + tF A oz 3 - nI 3 * far
  | some jz => txV A jz (tF A oz 2) (tF A oz 3) far
def spPl (A : Tn) (oz : Nat) (far : Int32) : Int32 := plK (tF A oz 0) (wi 499 (plP A oz far))
def farO (A : Tn) (az bz : Nat) : Int32 := ofB (nI (plc A az / 5)) (nI (plc A bz / 5)) + ofB (nI (plc A az % 5)) (nI (plc A bz % 5))
def lkV (A : Tn) (az kz : Nat) : Int32 := spPl A kz (farO A az kz) + (if tF A az 4 = nI kz then nI 40 else nI 0)
def lkF (A : Tn) (az : Nat) : Nat → Nat → Option Nat → Int32 → Option Nat
  | 0, _, bo, _ => bo
  | r + 1, kz, bo, mv => if nI 0 < tF A kz 2 ∧ spSee A az kz = true ∧ mv < lkV A az kz then lkF A az r (kz + 1) (some kz) (lkV A az kz) else lkF A az r (kz + 1) bo mv
def spLk (A : Tn) (az : Nat) : Option Nat := if tF A az 0 = nI 3 then none else lkF A az (tN A) 0 none (-1)
/-- what always holds of the texts -/
def WFx (A : Tn) : Prop := (tX A).length ≤ 14 ∧ ∀ tx ∈ tX A, okTx tx
theorem evL_nm {nm nm2 : Int32 → Int32} : ∀ (pr : List (Nat × Int32)) (st : List Int32), (∀ pp ∈ pr, pp.1 ≠ 0 → pp.1 ≠ 2 → nm pp.2 = nm2 pp.2) → evL nm pr st = evL nm2 pr st := by
  intro pr
  induction pr with
  | nil => intro st _; rfl
  | cons pp pr ih =>
    intro st h
    rw [evL_c, evL_c, ih _ (fun qq hq => h qq (List.mem_cons_of_mem _ hq))]
    congr 1
    by_cases h2 : pp.1 = 2
    · simp only [ev1, h2, if_true]
    · by_cases h0 : pp.1 = 0
      · simp only [ev1, h2, h0, if_true, if_false]
      · simp only [ev1, h2, h0, if_false, h pp List.mem_cons_self h0 h2]
theorem evT_nm {nm nm2 : Int32 → Int32} {tx : Tx} (hok : okTx tx) (h : ∀ lz, nmK tx.1 lz = true → nm (nI lz) = nm2 (nI lz)) : evT nm tx.2.2 = evT nm2 tx.2.2 := by
  unfold evT
  rw [evL_nm tx.2.2 [] (fun pp hp h0 h2 => ?_)]
  rcases hok.2.2.2.2 pp hp with ⟨z, _⟩ | ⟨_, lz, hn, hv⟩ | ⟨z, _⟩
  · exact absurd z h0
  · rw [hv]; exact h lz hn
  · exact absurd z h2
section Look
variable {E : aE} {d : Nat} {S : aSt} {σ : Nat → Nat → Int32} {A : Tn}
theorem k_within {mz : Nat} {xv : Int32} : Rn E d 109 0 [some (.int xv), some (.int (nI mz))] [] S = some (some (.int (wi mz xv)), S) := by
  simp only [e109_0, e109_1, e109_4, e109_5, e109_8, e109_9, e109_10, e109_13, e109_14, e109_17, e109_18, wi]
  by_cases h1 : xv < nI 0
  · have h2 : ¬ nI 0 ≤ xv := Int32.not_le.mpr h1
    simp only [h1, h2, if_true, if_false]
  · have h2 : nI 0 ≤ xv := Int32.not_lt.mp h1
    by_cases h3 : nI mz < xv
    · have h4 : ¬ xv ≤ nI mz := Int32.not_le.mpr h3
      simp only [h1, h2, h3, h4, if_true, if_false]
    · have h4 : xv ≤ nI mz := Int32.not_lt.mp h3
      simp only [h1, h2, h3, h4, if_true, if_false]
theorem k_off {xv yv : Int32} : Rn E d 110 0 [some (.int xv), some (.int yv)] [] S = some (some (.int (ofB xv yv)), S) := by
  simp only [e110_0, e110_1, e110_2, e110_5, e110_6, e110_7, e110_8, e110_11, e110_12, e110_13, e110_14, ofB]
  by_cases h1 : xv < yv
  · have h2 : ¬ yv ≤ xv := Int32.not_le.mpr h1
    simp only [h1, h2, if_true, if_false]
  · have h2 : yv ≤ xv := Int32.not_lt.mp h1
    simp only [h1, h2, if_true, if_false]
theorem k_counts_l {key : Nat} (hk3 : key < 3) (hM : MR (σ 94) A) (hX : WFx A) : ∀ (todo : List Tx) (tz : Nat) (acc : Option Nat), (tX A).drop tz = todo → tz ≤ (tX A).length →
    Rn E (d + 1) 187 4 [some (.ref 93), some (.int (nI key)), some (.int (oI acc)), some (.int (nI tz))] [] (shp, σ) = some (some (.int (oI (lkA key todo tz acc))), (shp, σ)) := by
  have h14 := hX.1
  have e1 := hM.2.2.2.2.1
  intro todo
  induction todo with
  | nil =>
    intro tz acc hd ht
    have h1 : (tX A).length ≤ tz := List.drop_eq_nil_iff.mp hd
    simp (disch := omega) only [e187_0, e187_1, e187_2, e187_3, e187_4, e187_5, e187_6, e187_9, e187_10, e187_11, e187_14, e187_15, e187_18, e187_19, e187_20, e187_23, e187_24, e187_25, e187_28, e187_29, e187_32, e187_33, e187_34, e187_37, e187_40, e187_41, gM_0, a_94, inb_n, ix_n, if_true, ne_eq, Nat.reduceEqDiff, not_false_eq_true, vM, clK_s, tl_s, tl_n, clr_i, clr_n, clr_a, nI_add, e1, nI_leI, h1, lkA]
  | cons tx todo ih =>
    intro tz acc hd ht
    have hlt : tz < (tX A).length := by
      rcases Nat.lt_or_ge tz (tX A).length with h | h
      · exact h
      · rw [List.drop_eq_nil_iff.mpr h] at hd; cases hd
    have hget : (tX A)[tz]? = some tx := by
      have := List.getElem?_drop (xs := tX A) (i := tz) (j := 0)
      rw [hd] at this
      simpa using this.symm
    have hd2 : (tX A).drop (tz + 1) = todo := by
      rw [← List.drop_drop, hd]
      rfl
    have h1 : ¬ (tX A).length ≤ tz := by omega
    have hok := hX.2 tx (List.mem_of_getElem? hget)
    have f1 := (hM.2.2.2.2.2 tz tx hget).1
    have hk := hok.1
    rw [e187_4]
    simp (disch := omega) only [e187_0, e187_1, e187_2, e187_3, e187_5, e187_6, e187_9, e187_10, e187_11, e187_14, e187_15, e187_18, e187_19, e187_20, e187_23, e187_24, e187_25, e187_28, e187_29, e187_32, e187_33, e187_34, e187_37, e187_40, e187_41, gM_0, a_94, inb_n, ix_n, if_true, ne_eq, Nat.reduceEqDiff, not_false_eq_true, vM, clK_s, tl_s, tl_n, clr_i, clr_n, clr_a, nI_add, k_textAt, e1, f1, nI_leI, h1, if_false, nI_lt2]
    by_cases hp : tx.1 = key
    · simp only [hp, not_true_eq_false, if_false, e187_0, e187_1, e187_2, e187_3, e187_5, e187_6, e187_9, e187_10, e187_11, e187_14, e187_15, e187_18, e187_19, e187_20, e187_23, e187_24, e187_25, e187_28, e187_29, e187_32, e187_33, e187_34, e187_37, e187_40, e187_41, gM_0, a_94, inb_n, ix_n, if_true, ne_eq, Nat.reduceEqDiff, not_false_eq_true, vM, clK_s, tl_s, tl_n, clr_i, clr_n, clr_a, nI_add]
      have h9 := ih (tz + 1) (some tz) hd2 (by omega)
      simp only [lkA, hp, if_true]
      exact h9
    · simp only [hp, not_false_eq_true, if_true, e187_0, e187_1, e187_2, e187_3, e187_5, e187_6, e187_9, e187_10, e187_11, e187_14, e187_15, e187_18, e187_19, e187_20, e187_23, e187_24, e187_25, e187_28, e187_29, e187_32, e187_33, e187_34, e187_37, e187_40, e187_41, gM_0, a_94, inb_n, ix_n, if_true, ne_eq, Nat.reduceEqDiff, not_false_eq_true, vM, clK_s, tl_s, tl_n, clr_i, clr_n, clr_a, nI_add]
      have h9 := ih (tz + 1) acc hd2 (by omega)
      simp only [lkA, hp, if_false]
      exact h9
theorem k_counts {key : Nat} (hk3 : key < 3) (hM : MR (σ 94) A) (hX : WFx A) : Rn E (d + 1) 187 0 [some (.ref 93), some (.int (nI key)), none, none] [] (shp, σ) = some (some (.int (oI (lastK (tX A) key))), (shp, σ)) := by
  simp only [e187_0, e187_1, e187_2, e187_3, clr_i, clr_n]
  exact k_counts_l hk3 hM hX (tX A) 0 none rfl (Nat.zero_le _)
theorem k_pulls2 {oz : Nat} {l2 l3 : Option Value} {xv : Int32} (hM : MR (σ 94) A) (hW : WFp A) (ho : oz < tN A) : Rn E (d + 1) 130 70 [some (.ref 93), some (.int (nI oz)), l2, l3, some (.int xv)] [] (shp, σ) = some (some (.int (plK (tF A oz 0) (wi 499 xv))), (shp, σ)) := by
  have h8 := hW.1
  obtain ⟨cz, hc, ec⟩ := (hW.2.1 oz ho).2.1
  have f0 := hM.2.1 oz ho 0 (by omega)
  have L : ∀ az bz : Nat, az < 200 → bz < 200 → (nI az = nI bz ↔ az = bz) := fun az bz h1 h2 => nI_eq (by omega) (by omega)
  simp (disch := omega) only [e130_70, e130_72, e130_75, e130_78, e130_80, e130_81, e130_82, e130_83, k_within, vM, k_of, clK_s, tl_s, clr_i, f0, ec]
  rw [e130_86, swZ_n (by omega) (by decide)]
  match cz, hc with
  | 0, _ => show Rn E (d + 1) 130 135 _ _ _ = _; simp (disch := omega) only [e130_116, e130_118, e130_120, e130_121, e130_122, e130_123, e130_125, e130_127, e130_128, e130_129, e130_130, e130_132, e130_133, e130_134, e130_135, e130_137, plK, L, Nat.reduceEqDiff, if_false, if_true]
  | 1, _ => show Rn E (d + 1) 130 116 _ _ _ = _; simp (disch := omega) only [e130_116, e130_118, e130_120, e130_121, e130_122, e130_123, e130_125, e130_127, e130_128, e130_129, e130_130, e130_132, e130_133, e130_134, e130_135, e130_137, plK, L, Nat.reduceEqDiff, if_false, if_true]
  | 2, _ => show Rn E (d + 1) 130 130 _ _ _ = _; simp (disch := omega) only [e130_116, e130_118, e130_120, e130_121, e130_122, e130_123, e130_125, e130_127, e130_128, e130_129, e130_130, e130_132, e130_133, e130_134, e130_135, e130_137, plK, L, Nat.reduceEqDiff, if_false, if_true, dv_n]
  | 3, _ => show Rn E (d + 1) 130 122 _ _ _ = _; simp (disch := omega) only [e130_116, e130_118, e130_120, e130_121, e130_122, e130_123, e130_125, e130_127, e130_128, e130_129, e130_130, e130_132, e130_133, e130_134, e130_135, e130_137, plK, L, Nat.reduceEqDiff, if_false, if_true]
  | 4, _ => show Rn E (d + 1) 130 130 _ _ _ = _; simp (disch := omega) only [e130_116, e130_118, e130_120, e130_121, e130_122, e130_123, e130_125, e130_127, e130_128, e130_129, e130_130, e130_132, e130_133, e130_134, e130_135, e130_137, plK, L, Nat.reduceEqDiff, if_false, if_true, dv_n]
  | 5, _ => show Rn E (d + 1) 130 135 _ _ _ = _; simp (disch := omega) only [e130_116, e130_118, e130_120, e130_121, e130_122, e130_123, e130_125, e130_127, e130_128, e130_129, e130_130, e130_132, e130_133, e130_134, e130_135, e130_137, plK, L, Nat.reduceEqDiff, if_false, if_true]
theorem lastK_31 {key : Nat} (hX : WFx A) : ∀ kz, lastK (tX A) key = some kz → kz < 2 ^ 31 := fun kz h => by have := (lastK_ok h).1; have := hX.1; omega
theorem k_pulls {oz : Nat} {far : Int32} (hM : MR (σ 94) A) (hW : WFp A) (hX : WFx A) (ho : oz < tN A) :
    ∃ σ2, Rn E (d + 2) 130 0 [some (.ref 93), some (.int (nI oz)), some (.int far), none, none] [] (shp, σ) = some (some (.int (spPl A oz far)), (shp, σ2)) ∧ Fr [108, 109] σ σ2 := by
  have h8 := hW.1
  have f2 := hM.2.1 oz ho 2 (by omega)
  have f3 := hM.2.1 oz ho 3 (by omega)
  have h14 := hX.1
  simp (disch := omega) only [e130_0, e130_1, e130_2, e130_5, e130_6, e130_7, e130_8, e130_9, e130_12, e130_13, e130_14, e130_15, e130_18, e130_19, e130_20, e130_21, e130_22, e130_23, e130_25, vM, k_of, k_counts (show 0 < 3 by omega) hM hX, clK_s, tl_s, clr_i, clr_n, f2, f3]
  rw [e130_26]
  simp only [oI_neg (lastK_31 hX)]
  cases hl : lastK (tX A) 0 with
  | none =>
    refine ⟨σ, ?_, Fr.rf⟩
    simp only [if_true]
    rw [k_pulls2 hM hW ho]
    simp only [spPl, plP, hl]
  | some jz =>
    obtain ⟨hj, tx, hg, hk0⟩ := lastK_ok hl
    have hok := hX.2 tx (List.mem_of_getElem? hg)
    have hT := hM.2.2.2.2.2 jz tx hg
    simp (disch := omega) only [reduceCtorEq, if_false, e130_29, e130_30, e130_33, e130_35, e130_36, e130_37, e130_38, e130_41, e130_42, e130_43, e130_46, e130_48, e130_49, e130_50, e130_51, e130_54, e130_55, e130_56, e130_59, e130_61, e130_62, e130_63, e130_64, e130_65, vM, k_of, clK_s, tl_s, clr_i, clr_n, f2, f3, gM_26, s_108, gM_0, a_94, inb_n, ix_n, if_true, ne_eq, Nat.reduceEqDiff, not_false_eq_true, vM, clK_s, tl_s, tl_n, clr_i, clr_n, clr_a, nI_add, su_row, oI]
    have hr : (su (su (su σ 108 115 (tF A oz 2)) 108 110 (tF A oz 3)) 108 102 far) 94 = σ 94 := by
      rw [su_row (by decide), su_row (by decide), su_row (by decide)]
    obtain ⟨σ2, hw, hf⟩ := k_worked (E := E) (d := d) (σ := su (su (su σ 108 115 (tF A oz 2)) 108 110 (tF A oz 3)) 108 102 far) (tz := jz) (tx := tx) (by rw [hr]; exact hT) hok (by omega)
    have hf2 : Fr [108, 109] σ σ2 := ((((Fr.rf (l := [108, 109]) (σ := σ)).su (by decide)).su (by decide)).su (by decide)).tr (hf.mono (by decide))
    have hM2 : MR (σ2 94) A := by rw [hf2 94 (by decide)]; exact hM
    refine ⟨σ2, ?_, hf2⟩
    rw [hw]
    simp only [clK_s, tl_s, e130_68, clr_i]
    rw [k_pulls2 hM2 hW ho]
    have hv : plP A oz far = evT (fun lv => su (su (su σ 108 115 (tF A oz 2)) 108 110 (tF A oz 3)) 108 102 far 108 (ix lv)) tx.2.2 := by
      simp only [plP, hl, txV, hg]
      refine evT_nm hok (fun lz hn => ?_)
      simp only [nmK, hk0, if_true, Bool.or_eq_true, beq_iff_eq] at hn
      rcases hn with (rfl | rfl) | rfl <;> rw [ix_n (by decide)] <;> simp (disch := omega) [nv, hk0, su_at, nI_lt2]
    rw [spPl, hv]
end Look
