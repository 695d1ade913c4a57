/-! WHAT IS OUTSIDE: the texts -/
def strK : List Nat := [48, 54, 56, 87, 89, 91, 93, 95, 130, 132, 134]
def tmS (i : Nat) : Term := .string RX2 (strK.getD i 0)
def gvF : List Cond := flatC (Jvm.Cond.and given_1 narrow_1)
def chS1 (i : Nat) : Bool := decide (Cond.exactly (tmS i) "java/lang/String" ∈ gvF) && decide (Cond.eq (.field (tmS i) "java/lang/String" "coder" "B") (.int 0) ∈ gvF) && decide (Cond.arrayOf (.field (tmS i) "java/lang/String" "value" "[B") .byte ∈ gvF) && decide (Cond.eq (.length (.field (tmS i) "java/lang/String" "value" "[B")) (.int (Int32.ofNat ((strX.map List.length).getD i 0))) ∈ gvF)
def chS2 (i j : Nat) : Bool := decide (Cond.eq (.elem (.field (tmS i) "java/lang/String" "value" "[B") (.int (Int32.ofNat j))) (.int ((strX.getD i []).getD j 0)) ∈ gvF)
def chS3 (i j : Nat) : Bool := decide (Cond.not (Cond.eq (tmS i) (tmS j)) ∈ gvF) || decide (Cond.not (Cond.eq (tmS j) (tmS i)) ∈ gvF)
theorem st_1 : (List.range 11).all chS1 = true := by decide +kernel
theorem st_2 : (List.range 11).all (fun i => (List.range ((strX.map List.length).getD i 0)).all (chS2 i)) = true := by decide +kernel
theorem st_3 : (List.range 11).all (fun i => (List.range 11).all (fun j => i == j || chS3 i j)) = true := by decide +kernel
theorem st_4 : strT.all (fun e => decide (lw_tbl[e.2.2.2]? = some (Cond.stringRef (ownN e.1) e.2.1 (strN.getD e.2.2.1 ""))) && decide (Term.string (ownN e.1) e.2.1 = tmS e.2.2.1) && decide (e.2.2.1 < 11)) = true := by decide +kernel
section Strs
variable {s : State} {args : Array Value}
theorem str_all (hgv : (Jvm.Cond.and given_1 narrow_1).before args s = true) {A : Nat → Prop} (hA : ∀ a : Nat, a < s.heap.size → ¬ A a) : ∃ adK adV : Nat → Nat, vk_S 11 (strX.map List.length) strX adK adV A s s.heap ∧ ∀ i : Nat, i < 11 → (tmS i).eval args s none [] s = some (.ref (adK i)) := by
  have hs := flat_of_before _ hgv
  have q1 : ∀ i, i < 11 → chS1 i = true := fun i hi => List.all_eq_true.mp st_1 i (List.mem_range.mpr hi)
  unfold chS1 at q1
  simp only [Bool.and_eq_true, decide_eq_true_eq] at q1
  refine vk_Sof (tm := tmS) ?_ (fun i hi => hs _ (q1 i hi).1.1.1) (fun i hi => hs _ (q1 i hi).1.1.2) (fun i hi => hs _ (q1 i hi).1.2) (fun i hi => hs _ (q1 i hi).2) ?_ ?_ hA
  · intro i hi
    have : ∀ i, i < 11 → (strX.map List.length).getD i 0 < 2 ^ 31 := by decide +kernel
    exact this i hi
  · intro i hi j hj
    have h1 := List.all_eq_true.mp st_2 i (List.mem_range.mpr hi)
    have h2 := List.all_eq_true.mp h1 j (List.mem_range.mpr hj)
    unfold chS2 at h2
    exact hs _ (of_decide_eq_true h2)
  · intro i j hi hj hij
    have h1 := List.all_eq_true.mp st_3 i (List.mem_range.mpr hi)
    have h2 := List.all_eq_true.mp h1 j (List.mem_range.mpr hj)
    rw [Bool.or_eq_true] at h2
    rcases h2 with h2 | h2
    · exact absurd (beq_iff_eq.mp h2) hij
    · unfold chS3 at h2
      rw [Bool.or_eq_true] at h2
      rcases h2 with h2 | h2
      · exact Or.inl (hs _ (of_decide_eq_true h2))
      · exact Or.inr (hs _ (of_decide_eq_true h2))
theorem ref_all (hts : ∀ w ∈ lw_tbl, w.before args s = true) {adK : Nat → Nat} (h : ∀ i : Nat, i < 11 → (tmS i).eval args s none [] s = some (.ref (adK i))) : ∀ e ∈ strT, vk_R (ownN e.1) e.2.1 (strN.getD e.2.2.1 "") (adK e.2.2.1) s := by
  intro e he
  have h1 := List.all_eq_true.mp st_4 e he
  simp only [Bool.and_eq_true, decide_eq_true_eq] at h1
  obtain ⟨⟨h2, h3⟩, h4⟩ := h1
  exact vk_R.of (hts _ (List.mem_of_getElem? h2)) (by rw [h3]; exact h _ h4)
end Strs
