/-! WHAT IS OUTSIDE, at the law's entry -/
section Out
variable {s : State} {args : Array Value}
theorem ar_p {ty : FieldType} (hp : ∀ C, ty ≠ .object C) (h : (Cond.arrayClass ty).before args s = true) : ∃ cA, ArrOfT s cA ty ∧ va_RA s cA ty := by
  obtain ⟨cA, kA, comp, h1, h2, h3⟩ := Cond.arrayClass_spec h
  refine ⟨cA, fun n z => ⟨fun k h => (by cases h), kA, h2, comp, h3⟩, ?_⟩
  cases ty with
  | object C => exact absurd rfl (hp C)
  | _ => exact h1
theorem ar_o {C : String} (h : (Cond.arrayOver (.object C)).before args s = true) : ∃ cA, ArrOfT s cA (.object C) ∧ va_RA s cA (.object C) := by
  obtain ⟨comp, cA, kA, h1, _, h2, h3, h4⟩ := Cond.arrayOver_spec h
  exact ⟨cA, fun n z => ⟨fun k h => (by cases h), kA, h2, comp, h3⟩, kA, comp, h2, h3, h1, h4⟩
theorem cl_all (hts : ∀ w ∈ lw_tbl, w.before args s = true) : ∃ D : va_G, ∀ (k : Nat) (q : vw_C), vwCl[k]? = some q → u_Kn s q.1 q.2.1 q.2.2 (D.1 k) (D.2 k) := by
  have hk : ∀ k : Nat, ∃ d : ClassId × (Nat → Nat), ∀ q : vw_C, vwCl[k]? = some q → u_Kn s q.1 q.2.1 q.2.2 d.1 d.2 := by
    intro k
    cases hq : vwCl[k]? with
    | none => exact ⟨(0, fun _ => 0), fun q h => by cases h⟩
    | some q =>
      have hin : ∀ w ∈ u_ws q.1 q.2.1 q.2.2, w ∈ gtb := (cls_ok hq).1
      have hi : (Cond.instantiable q.1 q.2.2).before args s = true := by
        match k, hq with
        | 0, hq => cases hq; exact hts _ (by decide +kernel)
        | 1, hq => cases hq; exact hts _ (by decide +kernel)
        | 2, hq => cases hq; exact hts _ (by decide +kernel)
        | 3, hq => cases hq; exact hts _ (by decide +kernel)
        | 4, hq => cases hq; exact hts _ (by decide +kernel)
        | 5, hq => cases hq; exact hts _ (by decide +kernel)
        | 6, hq => cases hq; exact hts _ (by decide +kernel)
        | 7, hq => cases hq; exact hts _ (by decide +kernel)
        | k + 8, hq => simp [vwCl] at hq
      obtain ⟨cC, iS, hK⟩ := u_known (fun w hw => hts w (gtb_lw hw)) hin hi
      exact ⟨(cC, iS), fun q2 h => by cases h; exact hK⟩
  refine ⟨(fun k => (Classical.choose (hk k)).1, fun k => (Classical.choose (hk k)).2), fun k q h => ?_⟩
  exact Classical.choose_spec (hk k) q h
theorem nest_all (hts : ∀ w ∈ lw_tbl, w.before args s = true) : ∀ e ∈ mthT, e.2.2.2.1 = 3 ∨ e.2.2.2.1 = 4 → ∀ y, mtb[e.2.2.1]? = some y → va_Nw (.methodLinkNest (ownN e.1) e.2.1 y.1 RX7) s := by
  intro e he hq y hy
  have h := List.all_eq_true.mp chk_mth e he
  unfold chkM at h
  rw [hy] at h
  simp only [Bool.and_eq_true, decide_eq_true_eq] at h
  have h1 := h.1.1.1.1.1.1.1.1.1.1.1
  rw [if_pos hq] at h1
  exact va_Nw.of rfl (hts _ (List.mem_of_getElem? h1))
theorem ao_all (hts : ∀ w ∈ lw_tbl, w.before args s = true) : va_AO RX3 s ∧ va_AO RX4 s ∧ va_AO RX5 s := ⟨va_AO.of (hts _ (by decide +kernel)), va_AO.of (hts _ (by decide +kernel)), va_AO.of (hts _ (by decide +kernel))⟩
end Out
