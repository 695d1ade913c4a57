/-! WHERE THE LAW STARTS -/
def F0a (σ : Nat → Nat → Int32) : Bool := decide (σ 36 10 = nI 0) && (List.range 20).all (fun pz => decide (σ 43 pz = (-1))) && (List.range 3).all (fun i => decide (σ 44 i = σ 94 (6 + i))) && (List.range 3).all (fun key => decide (σ 45 key = (-1))) && decide (σ 36 11 = σ 94 50 ∧ σ 36 12 = σ 94 3 ∧ σ 36 13 = σ 94 4 ∧ σ 36 14 = σ 94 5 ∧ σ 36 15 = σ 94 2 ∧ σ 36 16 = σ 94 9) && decide (σ 36 17 = nI 0) && decide (σ 94 0 = nI 0 ∧ σ 94 1 = nI 0 ∧ σ 94 2 = nI 0) && rg 0 200 (σ 94 6) && decide (σ 0 10 = nI 0 ∧ σ 93 3 = nI 0)
def F0b (σ : Nat → Nat → Int32) : Bool := (List.range 4).all (fun k => decide (σ (70 + 2 * k) 1 = σ 97 k ∧ σ (70 + 2 * k) 2 = σ 98 k ∧ (σ 97 k = (-1) ∨ σ 97 k = nI 0 ∨ σ 97 k = nI 1) ∧ σ 98 k = nI 0) && (List.range 24).all (fun i => decide (σ (70 + 2 * k + 1) i = σ 99 (24 * k + i) ∧ σ 99 (24 * k + i) = nI 0))) && (List.range 5).all (fun k => decide (σ (78 + 3 * k) 1 = σ 100 k ∧ σ 100 k = nI 0)) && decide (σ 34 1 = nI 0 ∧ σ 93 15 = nI 0 ∧ σ 0 9 = nI 0 ∧ σ 93 30 = nI 0)
def F0z (σ : Nat → Nat → Int32) : Bool := F0a σ && F0b σ
def iniF (F : (Nat → Nat → Int32) → Bool) : Bool := match ini with
  | some y => F y.2.2.2.2.2.2
  | none => false
theorem iniF_s {F : (Nat → Nat → Int32) → Bool} (h : iniF F = true) : F sg0 = true := by
  unfold iniF at h
  unfold sg0
  cases hy : ini with
  | none => rw [hy] at h; cases h
  | some y => rw [hy] at h; exact h
theorem f0 : iniF F0z = true := by decide +kernel
theorem inv_F {σ : Nat → Nat → Int32} (hab : F0z σ = true) : ∃ A B im, INV σ A B im := by
  unfold F0z at hab
  rw [Bool.and_eq_true] at hab
  obtain ⟨ha, hb⟩ := hab
  unfold F0a at ha
  unfold F0b at hb
  simp only [Bool.and_eq_true, decide_eq_true_eq, List.all_eq_true, List.mem_range] at ha hb
  obtain ⟨⟨⟨⟨⟨⟨⟨⟨a1, a2⟩, a3⟩, a4⟩, a5⟩, a6⟩, a7⟩, a8⟩, a9⟩ := ha
  obtain ⟨⟨b1, b2⟩, b3⟩ := hb
  have z1 : ¬ nI 0 = nI 1 := by decide +kernel
  have z2 : ¬ nI 0 = nI 2 := by decide +kernel
  have z3 : ¬ nI 0 = nI 3 := by decide +kernel
  refine ⟨(0, fun _ _ => 0, fun i => σ 94 i, []), (0, fun _ _ => 0, fun i => σ 94 i, []), false, ⟨⟨a1, ?_, a2, a3, ?_, a5, a6⟩, ⟨a7.1, ?_, fun _ _ _ => rfl, rfl, a7.2.1, ?_⟩, ⟨Nat.zero_le _, ?_, ?_, ?_⟩, ⟨Nat.zero_le _, ?_⟩, ⟨⟨0, by decide, a7.2.2⟩, a8⟩, ?_⟩, ⟨a9.1, a9.2, fun h => (by cases h)⟩, ?_, ?_, ?_, ?_⟩
  · intro kz hk; exact absurd hk (Nat.not_lt_zero _)
  · intro key hk; exact a4 key hk
  · intro kz hk; exact absurd hk (Nat.not_lt_zero _)
  · intro t tx hg; cases hg
  · intro kz hk; exact absurd hk (Nat.not_lt_zero _)
  · intro i j hi; exact absurd hi (Nat.not_lt_zero _)
  · intro kz hk; exact absurd hk (Nat.not_lt_zero _)
  · intro tx hx; cases hx
  · intro t tx hg; cases hg
  · intro k hk
    obtain ⟨⟨c1, c2, c3, c4⟩, c5⟩ := b1 k hk
    refine ⟨c1, c2, c3, ⟨0, by decide, c4⟩, fun i hi => ⟨(c5 i hi).1, Or.inr ?_⟩⟩
    rw [(c5 i hi).2]
    decide +kernel
  · intro k hk
    obtain ⟨c1, c2⟩ := b2 k hk
    refine ⟨c1, ⟨0, by decide, c2⟩, ?_, ?_, ?_⟩
    · rw [c2]; exact fun z => absurd z z1
    · rw [c2]; exact fun z => absurd z z2
    · rw [c2]; exact fun z => absurd z z3
  · exact ⟨0, by decide, b3.1, b3.2.1, fun i hi => absurd hi (Nat.not_lt_zero _)⟩
  · exact ⟨0, by decide, b3.2.2.1, b3.2.2.2, fun i hi => absurd hi (Nat.not_lt_zero _)⟩
theorem inv_0 : ∃ A B im, INV sg0 A B im := inv_F (iniF_s f0)
theorem i0_n : (0 : Int32) = nI 0 := by decide +kernel
/-- the law's answer -/
theorem law_ok {len : Nat} {xs : Nat → Int32} (hl : len < 2 ^ 31) : ∃ σ2, RN (some (len, xs)) st0 = some (some (.int (bI true)), (shp, σ2)) := by
  obtain ⟨A, B, im, hI⟩ := inv_0
  obtain ⟨σ2, g⟩ := lw_loop (len := len) (xs := xs) (d := 99) hl (len + 1) 0 sg0 A B im hI (Nat.zero_le _) (by omega)
  refine ⟨σ2, ?_⟩
  rw [law_ini, ← g, ← i0_n]
