/-! WHAT IS OUTSIDE, all of it -/
section Ex
variable {p : Program} {s : State} {m : MethodId} {meth : Method} {c : Code} {args : Array Value} {b L : Nat} {xs : Nat → Int32}
theorem eq_sp {t : Term} {x : Int32} (h : (Cond.eq t (.int x)).before args s = true) : t.eval args s none [] s = some (.int x) := by
  have h : (Cond.eq t (.int x)).holds args s none s [] = true := h
  simp only [Cond.holds, Cond.value, Term.eval] at h
  cases ht : t.eval args s none [] s with
  | none => simp [ht] at h
  | some v =>
    rw [ht] at h
    cases v <;> simp at h
    rw [h]
theorem ab_all (hts : ∀ w ∈ lw_tbl, w.before args s = true) (hgv : (Jvm.Cond.and given_1 narrow_1).before args s = true) {A : Nat → Prop} (hA : ∀ a : Nat, a < s.heap.size → ¬ A a) : ∃ t : Nat, va_Z RX0 "ABOVE" "[I" (.ref t) A s s.heap ∧ va_T .int t 6 (fun j => .int (abv.getD j 0)) A s s.heap := by
  have hs := flat_of_before _ hgv
  obtain ⟨t, h1, h2⟩ := va_Tof (tm := .static RX0 "ABOVE" "[I") (ty := .int) (N := 6) (f := fun j => .int (abv.getD j 0)) (A := A) (by decide) (hs (Cond.arrayOf (.static RX0 "ABOVE" "[I") .int) (by decide +kernel)) (eq_sp (hs (Cond.eq (.length (.static RX0 "ABOVE" "[I")) (.int 6)) (by decide +kernel))) (fun j hj => eq_sp (hs (Cond.eq (.elem (.static RX0 "ABOVE" "[I") (.int (Int32.ofNat j))) (.int (abv.getD j 0))) (by
    have hq : j = 0 ∨ j = 1 ∨ j = 2 ∨ j = 3 ∨ j = 4 ∨ j = 5 := by omega
    rcases hq with rfl | rfl | rfl | rfl | rfl | rfl <;> decide +kernel))) hA
  exact ⟨t, va_Zof (hts _ (by decide +kernel)) (hts _ (by decide +kernel)) h1 hA, h2⟩
theorem vkS_c {N : Nat} {len : List Nat} {byt : List (List Int32)} {adK adV f g : Nat → Nat} {A : Nat → Prop} {H : Heap} (h : vk_S N len byt adK adV A s H) (h1 : ∀ i, i < N → f i = adK i) (h2 : ∀ i, i < N → g i = adV i) : vk_S N len byt f g A s H := by
  obtain ⟨p1, p2⟩ := h
  refine ⟨fun i hi => ?_, fun i j hi hj hq => ?_⟩
  · rw [h1 i hi, h2 i hi]; exact p1 i hi
  · rw [h1 i hi, h1 j hj] at hq; exact p2 i j hi hj hq
theorem ex_start (hL : L ≤ 3072) (C0 : lw_At p s m meth c b L xs) : ∃ Γ : aG, EX Γ s ∧ gB Γ = s.heap.size ∧ gL Γ = L ∧ gx Γ = xs ∧ gb Γ = b := by
  obtain ⟨hx, hb, hr, hml, hown, hts, hX, hbl, hlocks, hgv, hnm⟩ := id C0
  have hs := flat_of_before _ hgv
  have hA : ∀ a : Nat, a < s.heap.size → ¬ (fun q : Nat => s.heap.size ≤ q) a := fun a h z => by have z : s.heap.size ≤ a := z; omega
  obtain ⟨D, hD⟩ := cl_all hts
  obtain ⟨cI, i1, i2⟩ := ar_p (ty := .int) (fun C h => by cases h) (hts (Cond.arrayClass .int) (by decide +kernel))
  obtain ⟨cY, y1, y2⟩ := ar_p (ty := .byte) (fun C h => by cases h) (hts (Cond.arrayClass .byte) (by decide +kernel))
  obtain ⟨a3, a4, a5⟩ := ao_all hts
  obtain ⟨c3, e3⟩ := ar_o (args := #[]) a3
  obtain ⟨c4, e4⟩ := ar_o (args := #[]) a4
  obtain ⟨c5, e5⟩ := ar_o (args := #[]) a5
  obtain ⟨adK, adV, k1, k2⟩ := str_all hgv hA
  obtain ⟨t, t1, t2⟩ := ab_all hts hgv hA
  have hco := va_Zof (C := RJ0) (n := "COMPACT_STRINGS") (d := "Z") (v := .int 1) (hts _ (by decide +kernel)) (hts _ (by decide +kernel)) (eq_sp (hs (Cond.eq (.static RJ0 "COMPACT_STRINGS" "Z") (.int 1)) (by decide +kernel))) hA
  have hsi := va_Zqof (C := RJ3) (n := "SIOOBE_FORMATTER") (d := "Ljava/util/function/BiFunction;") (hts _ (by decide +kernel)) (hts _ (by decide +kernel)) (hs (Cond.isRef (.static RJ3 "SIOOBE_FORMATTER" "Ljava/util/function/BiFunction;")) (by decide +kernel)) hA
  obtain ⟨z, hz, hz2⟩ : ∃ z : Value, va_Z RJ3 "SIOOBE_FORMATTER" "Ljava/util/function/BiFunction;" z (fun q : Nat => s.heap.size ≤ q) s s.heap ∧ (z = .null ∨ ∃ t, z = .ref t) := by
    rcases hsi with h | ⟨t, h⟩
    · exact ⟨.null, h, Or.inl rfl⟩
    · exact ⟨.ref t, h, Or.inr ⟨t, rfl⟩⟩
  have hK : va_K D vwCl [(cI, .int), (cY, .byte), (c3, .object RX3), (c4, .object RX4), (c5, .object RX5)] s := by
    refine ⟨hD, fun k q h => ?_⟩
    match k, h with
    | 0, h => cases h; exact ⟨i1, i2⟩
    | 1, h => cases h; exact ⟨y1, y2⟩
    | 2, h => cases h; exact e3
    | 3, h => cases h; exact e4
    | 4, h => cases h; exact e5
    | k + 5, h => cases h
  refine ⟨(s.heap.size, fun k => if k = 1000 then b else if k = 1002 then t else if k < 1030 then adK (k - 1010) else adV (k - 1030), z, D, (cI, cY, fun i => if i = 2 then c3 else if i = 3 then c4 else c5), (b, L, xs)), ⟨hK, nest_all hts, ?_, ?_, ⟨t1, t2⟩, ⟨hco, hz, hz2⟩, ⟨hX, rfl, hbl, ?_⟩, a3, a4, a5⟩, rfl, rfl, rfl, rfl⟩
  · intro e he
    have h11 : e.2.2.1 < 11 := by
      have h1 := List.all_eq_true.mp st_4 e he
      simp only [Bool.and_eq_true, decide_eq_true_eq] at h1
      exact h1.2
    have := ref_all hts k2 e he
    show vk_R _ _ _ (if 1010 + e.2.2.1 = 1000 then b else if 1010 + e.2.2.1 = 1002 then t else if 1010 + e.2.2.1 < 1030 then adK (1010 + e.2.2.1 - 1010) else _) s
    rw [if_neg (by omega), if_neg (by omega), if_pos (by omega), show 1010 + e.2.2.1 - 1010 = e.2.2.1 by omega]
    exact this
  · refine vkS_c k1 (fun i hi => ?_) (fun i hi => ?_)
    · show (if 1010 + i = 1000 then b else if 1010 + i = 1002 then t else if 1010 + i < 1030 then adK (1010 + i - 1010) else _) = _
      rw [if_neg (by omega), if_neg (by omega), if_pos (by omega), show 1010 + i - 1010 = i by omega]
    · show (if 1030 + i = 1000 then b else if 1030 + i = 1002 then t else if 1030 + i < 1030 then _ else adV (1030 + i - 1030)) = _
      rw [if_neg (by omega), if_neg (by omega), if_neg (by omega), show 1030 + i - 1030 = i by omega]
  · show L < 2 ^ 31
    omega
end Ex
