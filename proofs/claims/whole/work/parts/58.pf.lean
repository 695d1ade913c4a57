/-! TEXTS: what reading gives -/
abbrev PS : Type := Tk × List (Nat × Int32) × Nat
def sgn (tp : Nat → Nat) (tk : Tk) : Nat := if tk.1 = 3 then tp tk.2.1 else 0
def lvS (lv cz : Nat) : Bool := if lv = 0 then cz == 124 else if lv = 1 then cz == 38 else if lv = 2 then cz == 60 || cz == 61 || cz == 62 else if lv = 3 then cz == 43 || cz == 45 else cz == 42 || cz == 47
def bnd (x : Option (Nat ⊕ PS)) (g : PS → Option (Nat ⊕ PS)) : Option (Nat ⊕ PS) := match x with
  | none => none
  | some (.inl pz) => some (.inl pz)
  | some (.inr s) => g s
abbrev isNu (s : PS) : Prop := s.1.1 = 2 ∧ s.1.2.2 - s.1.2.1 ≤ 4
abbrev isNa (tp : Nat → Nat) (key : Nat) (s : PS) : Prop := s.1.1 = 1 ∧ s.1.2.2 = s.1.2.1 + 1 ∧ nmK key (tp s.1.2.1) = true
def nxS (tp : Nat → Nat) (n : Nat) (s : PS) : PS := (tok tp n s.1, s.2)
def adS (pp : Nat × Int32) (s : PS) : PS := (s.1, s.2.1 ++ [pp], s.2.2)
def lfS (tp : Nat → Nat) (n : Nat) (pp : Nat × Int32) (s : PS) : PS := (tok tp n s.1, s.2.1 ++ [pp], s.2.2 + 1)
def PF (tp : Nat → Nat) (n key : Nat) : Nat → Nat → Nat → Nat → PS → Option (Nat ⊕ PS)
  | 0, _, _, _, _ => none
  | f + 1, m, nt, dp, s =>
    if m < 5 then bnd (PF tp n key f (m + 1) nt dp s) (fun s2 => PF tp n key f (m + 6) nt dp s2)
    else if m = 5 then
      (if isNu s then some (.inr (lfS tp n (0, nI (nuF tp (s.1.2.2 - s.1.2.1) s.1.2.1 0)) s))
       else if isNa tp key s then some (.inr (lfS tp n (1, nI (tp s.1.2.1)) s))
       else if sgn tp s.1 = 33 ∧ nt < 8 then bnd (PF tp n key f 5 (nt + 1) dp (nxS tp n s)) (fun s2 => some (.inr (adS (2, nI 33) s2)))
       else if sgn tp s.1 = 40 ∧ dp < 8 then bnd (PF tp n key f 0 nt (dp + 1) (nxS tp n s)) (fun s2 => if sgn tp s2.1 = 41 then some (.inr (nxS tp n s2)) else some (.inl s2.1.2.1))
       else some (.inl s.1.2.1))
    else (if lvS (m - 6) (sgn tp s.1) = true then bnd (PF tp n key f (m - 5) nt dp (nxS tp n s)) (fun s2 => if m = 8 then some (.inr (adS (2, nI (sgn tp s.1)) s2)) else PF tp n key f m nt dp (adS (2, nI (sgn tp s.1)) s2))
      else some (.inr s))
/-- a word or sign as it must be -/
def tkW (tp : Nat → Nat) (n : Nat) (tk : Tk) : Prop := tk.2.1 ≤ n ∧ tk.2.2 ≤ n ∧ tk.1 ≤ 4 ∧ (tk.1 = 0 ∨ tk.2.1 < tk.2.2) ∧ (tk.1 = 2 → ∀ i, tk.2.1 ≤ i → i < tk.2.2 → 48 ≤ tp i ∧ tp i ≤ 57) ∧ (tk.1 = 1 → 97 ≤ tp tk.2.1 ∧ tp tk.2.1 ≤ 122)
def PW (tp : Nat → Nat) (n : Nat) (s : PS) : Prop := tkW tp n s.1 ∧ s.2.1.length ≤ s.1.2.1 ∧ s.2.2 ≤ s.1.2.1
section Pf
variable {tp : Nat → Nat} {n key : Nat}
theorem rnF_a {kz : Nat} : ∀ r pz i, pz ≤ i → i < rnF tp kz r pz → kc (tp i) = kz := by
  intro r
  induction r with
  | zero => intro pz i h1 h2; unfold rnF at h2; omega
  | succ r ih =>
    intro pz i h1 h2
    unfold rnF at h2
    by_cases hq : kc (tp pz) = kz
    · rw [if_pos hq] at h2
      by_cases he : i = pz
      · rw [he]; exact hq
      · exact ih (pz + 1) i (by omega) h2
    · rw [if_neg hq] at h2; omega
theorem kc_2 {bz : Nat} (h : kc bz = 2) : 48 ≤ bz ∧ bz ≤ 57 := by
  unfold kc at h
  split at h
  · omega
  · split at h
    · assumption
    · omega
theorem kc_1 {bz : Nat} (h : kc bz = 1) : 97 ≤ bz ∧ bz ≤ 122 := by
  unfold kc at h
  split at h
  · assumption
  · split at h <;> omega
theorem tok_w {tk : Tk} (hb : tk.2.2 ≤ n) : tkW tp n (tok tp n tk) ∧ tk.2.2 ≤ (tok tp n tk).2.1 := by
  obtain ⟨f1, f2⟩ := tkF_b (tp := tp) hb
  obtain ⟨b1, b2, b3⟩ := tkB_b (tp := tp) f2
  have hs3 := sA_r tp n (tkF tp n tk.2.2)
  have h0 : ¬ tkF tp n tk.2.2 < n → sA tp n (tkF tp n tk.2.2) = 0 := fun hh => by unfold sA; rw [if_neg hh]
  have hs : tkF tp n tk.2.2 < n → sA tp n (tkF tp n tk.2.2) = kc (tp (tkF tp n tk.2.2)) := fun hh => by unfold sA; rw [if_pos hh]
  refine ⟨⟨f2, b2, ?_, ?_, ?_, ?_⟩, f1⟩
  · show (if _ then _ else _) ≤ 4
    split <;> omega
  · show (if _ then _ else _) = 0 ∨ tkF tp n tk.2.2 < tkB tp n (tkF tp n tk.2.2)
    by_cases hq : tkF tp n tk.2.2 < n
    · exact Or.inr (b3 hq)
    · left
      rw [if_neg (by rw [h0 hq]; omega), h0 hq]
  · show (if _ then _ else _) = 2 → ∀ i, tkF tp n tk.2.2 ≤ i → i < tkB tp n (tkF tp n tk.2.2) → _
    intro h2 i i1 i2
    split at h2
    · omega
    · have hq : tkF tp n tk.2.2 < n := by
        rcases Nat.lt_or_ge (tkF tp n tk.2.2) n with h | h
        · exact h
        · rw [h0 (by omega)] at h2; omega
      rw [hs hq] at h2
      unfold tkB at i2
      rw [if_pos hq, h2, if_neg (by omega)] at i2
      by_cases he : i = tkF tp n tk.2.2
      · rw [he]; exact kc_2 h2
      · exact kc_2 (rnF_a _ _ i (by omega) i2)
  · show (if _ then _ else _) = 1 → 97 ≤ tp (tkF tp n tk.2.2) ∧ tp (tkF tp n tk.2.2) ≤ 122
    intro h2
    split at h2
    · omega
    · have hq : tkF tp n tk.2.2 < n := by
        rcases Nat.lt_or_ge (tkF tp n tk.2.2) n with h | h
        · exact h
        · rw [h0 (by omega)] at h2; omega
      rw [hs hq] at h2
      exact kc_1 h2
theorem nuF_b : ∀ r i a kz, (∀ j, i ≤ j → j < i + r → 48 ≤ tp j ∧ tp j ≤ 57) → a < kz → nuF tp r i a < kz * 10 ^ r := by
  intro r
  induction r with
  | zero => intro i a kz _ h; simpa [nuF] using h
  | succ r ih =>
    intro i a kz h ha
    have h1 := h i (by omega) (by omega)
    have := ih (i + 1) (10 * a + (tp i - 48)) (10 * kz) (fun j h2 h3 => h j (by omega) (by omega)) (by omega)
    rw [Nat.pow_succ, show kz * (10 ^ r * 10) = 10 * kz * 10 ^ r by rw [← Nat.mul_assoc, Nat.mul_comm (kz * 10 ^ r) 10, Nat.mul_assoc]]
    exact this
theorem nuF_4 {fz bz : Nat} (h : ∀ i, fz ≤ i → i < bz → 48 ≤ tp i ∧ tp i ≤ 57) (h4 : bz - fz ≤ 4) : nuF tp (bz - fz) fz 0 < 10000 := by
  have h1 := nuF_b (tp := tp) (bz - fz) fz 0 1 (fun j h2 h3 => h j h2 (by omega)) (by omega)
  have h2 : 10 ^ (bz - fz) ≤ 10 ^ 4 := Nat.pow_le_pow_right (by omega) h4
  have h3 : (10 : Nat) ^ 4 = 10000 := by decide
  omega
theorem lvS_ok {lv cz : Nat} (h : lvS lv cz = true) : sgK cz = true ∧ cz ≠ 33 ∧ 0 < cz ∧ cz < 128 := by
  unfold lvS at h
  have : cz = 124 ∨ cz = 38 ∨ cz = 60 ∨ cz = 61 ∨ cz = 62 ∨ cz = 43 ∨ cz = 45 ∨ cz = 42 ∨ cz = 47 := by
    split at h
    · simp only [beq_iff_eq] at h; omega
    · split at h
      · simp only [beq_iff_eq] at h; omega
      · split at h
        · simp only [Bool.or_eq_true, beq_iff_eq] at h; omega
        · split at h <;> simp only [Bool.or_eq_true, beq_iff_eq] at h <;> omega
  rcases this with rfl | rfl | rfl | rfl | rfl | rfl | rfl | rfl | rfl <;> decide
theorem sgn_3 {tk : Tk} (h : sgn tp tk ≠ 0) : tk.1 = 3 ∧ sgn tp tk = tp tk.2.1 := by
  unfold sgn at h ⊢
  by_cases h3 : tk.1 = 3
  · rw [if_pos h3]; exact ⟨h3, rfl⟩
  · rw [if_neg h3] at h; exact absurd rfl h
theorem bnd_r {x : Option (Nat ⊕ PS)} {g : PS → Option (Nat ⊕ PS)} {r : Nat ⊕ PS} (h : bnd x g = some r) : (∃ pz, x = some (.inl pz) ∧ r = .inl pz) ∨ (∃ s, x = some (.inr s) ∧ g s = some r) := by
  rcases x with _ | (pz | s)
  · cases h
  · exact Or.inl ⟨pz, rfl, (Option.some.inj h).symm⟩
  · exact Or.inr ⟨s, rfl, h⟩
/-- a good reading: how far, how long, what it does to a pile -/
def PG (tp : Nat → Nat) (n key m : Nat) (s s2 : PS) : Prop := PW tp n s2 ∧ s2.2.1.length + s.1.2.1 ≤ s.2.1.length + s2.1.2.1 ∧ s.1.2.1 ≤ s2.1.2.1 ∧ (m ≤ 5 → s.1.2.1 < s2.1.2.1) ∧ s2.2.2 + s.1.2.1 ≤ s.2.2 + s2.1.2.1 ∧ ∃ l, s2.2.1 = s.2.1 ++ l ∧ (∀ pp ∈ l, okP key pp) ∧ (m ≤ 5 → ∀ r z, dpt (l ++ r) z = dpt r (z + 1)) ∧ (5 < m → ∀ r z, 1 ≤ z → dpt (l ++ r) z = dpt r z)
theorem dpt_p {pp : Nat × Int32} {r : List (Nat × Int32)} {z : Nat} (h : pp.1 ≠ 2) : dpt ([pp] ++ r) z = dpt r (z + 1) := by
  show (if pp.1 = 2 then (if pp.2 = nI 33 then decide (1 ≤ z) && dpt r (z) else decide (2 ≤ z) && dpt r (z - 1)) else dpt r (z + 1)) = _
  rw [if_neg h]
theorem dpt_b {cz : Nat} {r : List (Nat × Int32)} {z : Nat} (hc : cz < 128) (h : cz ≠ 33) (hz : 1 ≤ z) : dpt ([(2, nI cz)] ++ r) (z + 1) = dpt r z := by
  show (if 2 = 2 then (if nI cz = nI 33 then decide (1 ≤ (z + 1)) && dpt r ((z + 1)) else decide (2 ≤ (z + 1)) && dpt r ((z + 1) - 1)) else dpt r ((z + 1) + 1)) = _
  rw [if_pos rfl, if_neg (fun q => h ((nI_eq (by omega) (by omega)).mp q)), decide_eq_true (show 2 ≤ z + 1 by omega)]
  rfl
theorem dpt_n {r : List (Nat × Int32)} {z : Nat} (hz : 1 ≤ z) : dpt ([(2, nI 33)] ++ r) z = dpt r z := by
  show (if 2 = 2 then (if nI 33 = nI 33 then decide (1 ≤ z) && dpt r (z) else decide (2 ≤ z) && dpt r (z - 1)) else dpt r (z + 1)) = _
  rw [if_pos rfl, if_pos rfl, decide_eq_true hz]
  rfl
theorem PW.nx {s : PS} (h : PW tp n s) (h3 : s.1.1 ≠ 0) : PW tp n (nxS tp n s) ∧ s.1.2.1 < (nxS tp n s).1.2.1 ∧ (nxS tp n s).1.2.1 ≤ n := by
  obtain ⟨⟨w1, w2, w3, w4, w5, w6⟩, l1, l2⟩ := h
  obtain ⟨t1, t2⟩ := tok_w (tp := tp) (n := n) w2
  have := t1.1
  refine ⟨⟨t1, ?_, ?_⟩, ?_, t1.1⟩
  · show s.2.1.length ≤ (tok tp n s.1).2.1; omega
  · show s.2.2 ≤ (tok tp n s.1).2.1; omega
  · show s.1.2.1 < (tok tp n s.1).2.1; omega
theorem PW.lf {s : PS} {pp : Nat × Int32} {m : Nat} (h : PW tp n s) (h3 : s.1.1 ≠ 0) (hp : okP key pp) (h2 : pp.1 ≠ 2) (hm : m ≤ 5) : PG tp n key m s (lfS tp n pp s) := by
  obtain ⟨⟨w1, w2, w3, w4, w5, w6⟩, l1, l2⟩ := h
  obtain ⟨t1, t2⟩ := tok_w (tp := tp) (n := n) w2
  have e1 : (lfS tp n pp s).2.1.length = s.2.1.length + 1 := by unfold lfS; simp
  have e2 : (lfS tp n pp s).2.2 = s.2.2 + 1 := rfl
  have e3 : (lfS tp n pp s).1 = tok tp n s.1 := rfl
  refine ⟨⟨?_, ?_, ?_⟩, ?_, ?_, ?_, ?_, [pp], rfl, ?_, ?_, ?_⟩
  · rw [e3]; exact t1
  · rw [e1, e3]; omega
  · rw [e2, e3]; omega
  · rw [e1, e3]; omega
  · rw [e3]; omega
  · rw [e3]; omega
  · rw [e2, e3]; omega
  · intro q hq
    rw [List.mem_singleton] at hq
    rw [hq]; exact hp
  · intro _ r z; exact dpt_p h2
  · intro hh; omega
theorem PW.ad {s : PS} {pp : Nat × Int32} (h : PW tp n s) (h1 : s.2.1.length < s.1.2.1) : PW tp n (adS pp s) := by
  refine ⟨h.1, ?_, h.2.2⟩
  show (s.2.1 ++ [pp]).length ≤ s.1.2.1
  rw [List.length_append]
  show s.2.1.length + 1 ≤ _
  omega
theorem ad_l {s : PS} {pp : Nat × Int32} : (adS pp s).2.1.length = s.2.1.length + 1 := by unfold adS; simp
theorem PF_b : ∀ f m nt dp (s s2 : PS), m ≤ 10 → PF tp n key f m nt dp s = some (.inr s2) → PW tp n s → PG tp n key m s s2 := by
  intro f
  induction f with
  | zero => intro m nt dp s s2 _ h; cases h
  | succ f ih =>
    intro m nt dp s s2 h10 h hW
    unfold PF at h
    by_cases h5 : m < 5
    · rw [if_pos h5] at h
      rcases bnd_r h with ⟨_, _, q⟩ | ⟨s1, q1, q2⟩
      · cases q
      · obtain ⟨a1, a2, a3, a4, a5, l1, a6, a7, a8, a9⟩ := ih _ _ _ _ _ (by omega) q1 hW
        obtain ⟨b1, b2, b3, b4, b5, l2, b6, b7, b8, b9⟩ := ih _ _ _ _ _ (by omega) q2 a1
        have a4 := a4 (by omega)
        refine ⟨b1, by omega, by omega, fun _ => by omega, by omega, l1 ++ l2, ?_, ?_, ?_, fun hh => by omega⟩
        · rw [b6, a6, List.append_assoc]
        · intro pp hp
          rcases List.mem_append.mp hp with hp | hp
          · exact a7 pp hp
          · exact b7 pp hp
        · intro _ r z
          rw [List.append_assoc, a8 (by omega), b9 (by omega) _ _ (by omega)]
    · rw [if_neg h5] at h
      by_cases h6 : m = 5
      · rw [if_pos h6] at h
        by_cases c1 : isNu s
        · rw [if_pos c1] at h
          cases Sum.inr.inj (Option.some.inj h)
          exact hW.lf (by have := c1.1; omega) (Or.inl ⟨rfl, _, nuF_4 (hW.1.2.2.2.2.1 c1.1) c1.2, rfl⟩) (show (0 : Nat) ≠ 2 by decide) (by omega)
        · rw [if_neg c1] at h
          by_cases c2 : isNa tp key s
          · rw [if_pos c2] at h
            cases Sum.inr.inj (Option.some.inj h)
            exact hW.lf (by have := c2.1; omega) (Or.inr (Or.inl ⟨rfl, _, c2.2.2, rfl⟩)) (show (1 : Nat) ≠ 2 by decide) (by omega)
          · rw [if_neg c2] at h
            by_cases c3 : sgn tp s.1 = 33 ∧ nt < 8
            · rw [if_pos c3] at h
              have k3 := (sgn_3 (tp := tp) (tk := s.1) (by omega)).1
              obtain ⟨x1, x2, x3⟩ := hW.nx (show s.1.1 ≠ 0 by omega)
              rcases bnd_r h with ⟨_, _, q⟩ | ⟨s1, q1, q2⟩
              · cases q
              · obtain ⟨a1, a2, a3, a4, a5, l1, a6, a7, a8, a9⟩ := ih _ _ _ _ _ (by omega) q1 x1
                have a4 := a4 (by omega)
                have e1 : (nxS tp n s).2 = s.2 := rfl
                rw [e1] at a2 a5 a6
                have hl : s1.2.1.length < s1.1.2.1 := by have := hW.2.1; omega
                cases Sum.inr.inj (Option.some.inj q2)
                refine ⟨a1.ad hl, by rw [ad_l]; show _ ≤ _ + s1.1.2.1; omega, by show _ ≤ s1.1.2.1; omega, fun _ => (by show _ < s1.1.2.1; omega), by show s1.2.2 + _ ≤ _ + s1.1.2.1; omega, l1 ++ [(2, nI 33)], ?_, ?_, ?_, fun hh => by omega⟩
                · show s1.2.1 ++ _ = _
                  rw [a6, List.append_assoc]
                · intro pp hp
                  rcases List.mem_append.mp hp with hp | hp
                  · exact a7 pp hp
                  · rw [List.mem_singleton] at hp
                    rw [hp]; exact Or.inr (Or.inr ⟨rfl, 33, by decide, rfl⟩)
                · intro _ r z
                  rw [List.append_assoc, a8 (by omega), dpt_n (by omega)]
            · rw [if_neg c3] at h
              by_cases c4 : sgn tp s.1 = 40 ∧ dp < 8
              · rw [if_pos c4] at h
                have k3 := (sgn_3 (tp := tp) (tk := s.1) (by omega)).1
                obtain ⟨x1, x2, x3⟩ := hW.nx (show s.1.1 ≠ 0 by omega)
                rcases bnd_r h with ⟨_, _, q⟩ | ⟨s1, q1, q2⟩
                · cases q
                · obtain ⟨a1, a2, a3, a4, a5, l1, a6, a7, a8, a9⟩ := ih _ _ _ _ _ (by omega) q1 x1
                  have e1 : (nxS tp n s).2 = s.2 := rfl
                  rw [e1] at a2 a5 a6
                  by_cases c5 : sgn tp s1.1 = 41
                  · rw [if_pos c5] at q2
                    have k4 := (sgn_3 (tp := tp) (tk := s1.1) (by omega)).1
                    obtain ⟨y1, y2, y3⟩ := a1.nx (show s1.1.1 ≠ 0 by omega)
                    cases Sum.inr.inj (Option.some.inj q2)
                    have e2 : (nxS tp n s1).2 = s1.2 := rfl
                    refine ⟨y1, by rw [e2]; omega, by omega, fun _ => by omega, by rw [e2]; omega, l1, by rw [e2]; exact a6, a7, fun _ => a8 (by omega), fun hh => by omega⟩
                  · rw [if_neg c5] at q2
                    cases q2
              · rw [if_neg c4] at h
                cases h
      · rw [if_neg h6] at h
        by_cases c1 : lvS (m - 6) (sgn tp s.1) = true
        · rw [if_pos c1] at h
          obtain ⟨o1, o2, o3, o4⟩ := lvS_ok c1
          have k3 := (sgn_3 (tp := tp) (tk := s.1) (by omega)).1
          obtain ⟨x1, x2, x3⟩ := hW.nx (show s.1.1 ≠ 0 by omega)
          rcases bnd_r h with ⟨_, _, q⟩ | ⟨s1, q1, q2⟩
          · cases q
          · obtain ⟨a1, a2, a3, a4, a5, l1, a6, a7, a8, a9⟩ := ih _ _ _ _ _ (by omega) q1 x1
            have a4 := a4 (by omega)
            have e1 : (nxS tp n s).2 = s.2 := rfl
            rw [e1] at a2 a5 a6
            have hl : s1.2.1.length < s1.1.2.1 := by have := hW.2.1; omega
            have g0 : PG tp n key m s (adS (2, nI (sgn tp s.1)) s1) := by
              refine ⟨a1.ad hl, by rw [ad_l]; show _ ≤ _ + s1.1.2.1; omega, by show _ ≤ s1.1.2.1; omega, fun _ => (by show _ < s1.1.2.1; omega), by show s1.2.2 + _ ≤ _ + s1.1.2.1; omega, l1 ++ [(2, nI (sgn tp s.1))], ?_, ?_, fun hh => (by omega), ?_⟩
              · show s1.2.1 ++ _ = _
                rw [a6, List.append_assoc]
              · intro pp hp
                rcases List.mem_append.mp hp with hp | hp
                · exact a7 pp hp
                · rw [List.mem_singleton] at hp
                  rw [hp]; exact Or.inr (Or.inr ⟨rfl, _, o1, rfl⟩)
              · intro _ r z hz
                rw [List.append_assoc, a8 (by omega), dpt_b o4 o2 hz]
            by_cases c8 : m = 8
            · rw [if_pos c8] at q2
              cases Sum.inr.inj (Option.some.inj q2)
              exact g0
            · rw [if_neg c8] at q2
              obtain ⟨g1, g2, g3, g4, g5, l3, g6, g7, g8, g9⟩ := g0
              obtain ⟨b1, b2, b3, b4, b5, l2, b6, b7, b8, b9⟩ := ih _ _ _ _ _ (by omega) q2 g1
              refine ⟨b1, by omega, by omega, fun _ => (by omega), by omega, l3 ++ l2, ?_, ?_, fun hh => (by omega), ?_⟩
              · rw [b6, g6, List.append_assoc]
              · intro pp hp
                rcases List.mem_append.mp hp with hp | hp
                · exact g7 pp hp
                · exact b7 pp hp
              · intro _ r z hz
                rw [List.append_assoc, g9 (by omega) _ _ hz, b9 (by omega) _ _ hz]
        · rw [if_neg c1] at h
          cases Sum.inr.inj (Option.some.inj h)
          exact ⟨hW, by omega, by omega, fun hh => by omega, by omega, [], (by simp), (fun pp hp => (by cases hp)), (fun hh => (by omega)), fun _ r z _ => rfl⟩
theorem PF_f : ∀ f m nt dp (s : PS) (pz : Nat), m ≤ 10 → PF tp n key f m nt dp s = some (.inl pz) → PW tp n s → pz ≤ n := by
  intro f
  induction f with
  | zero => intro m nt dp s pz _ h; cases h
  | succ f ih =>
    intro m nt dp s pz h10 h hW
    unfold PF at h
    by_cases h5 : m < 5
    · rw [if_pos h5] at h
      rcases bnd_r h with ⟨p2, q1, q⟩ | ⟨s1, q1, q2⟩
      · cases q; exact ih _ _ _ _ _ (by omega) q1 hW
      · exact ih _ _ _ _ _ (by omega) q2 (PF_b _ _ _ _ _ _ (by omega) q1 hW).1
    · rw [if_neg h5] at h
      by_cases h6 : m = 5
      · rw [if_pos h6] at h
        by_cases c1 : isNu s
        · rw [if_pos c1] at h; cases h
        · rw [if_neg c1] at h
          by_cases c2 : isNa tp key s
          · rw [if_pos c2] at h; cases h
          · rw [if_neg c2] at h
            by_cases c3 : sgn tp s.1 = 33 ∧ nt < 8
            · rw [if_pos c3] at h
              have k3 := (sgn_3 (tp := tp) (tk := s.1) (by omega)).1
              obtain ⟨x1, x2, x3⟩ := hW.nx (show s.1.1 ≠ 0 by omega)
              rcases bnd_r h with ⟨p2, q1, q⟩ | ⟨s1, q1, q2⟩
              · cases q; exact ih _ _ _ _ _ (by omega) q1 x1
              · cases q2
            · rw [if_neg c3] at h
              by_cases c4 : sgn tp s.1 = 40 ∧ dp < 8
              · rw [if_pos c4] at h
                have k3 := (sgn_3 (tp := tp) (tk := s.1) (by omega)).1
                obtain ⟨x1, x2, x3⟩ := hW.nx (show s.1.1 ≠ 0 by omega)
                rcases bnd_r h with ⟨p2, q1, q⟩ | ⟨s1, q1, q2⟩
                · cases q; exact ih _ _ _ _ _ (by omega) q1 x1
                · by_cases c5 : sgn tp s1.1 = 41
                  · rw [if_pos c5] at q2; cases q2
                  · rw [if_neg c5] at q2
                    cases Sum.inl.inj (Option.some.inj q2)
                    exact (PF_b _ _ _ _ _ _ (by omega) q1 x1).1.1.1
              · rw [if_neg c4] at h
                cases Sum.inl.inj (Option.some.inj h)
                exact hW.1.1
      · rw [if_neg h6] at h
        by_cases c1 : lvS (m - 6) (sgn tp s.1) = true
        · rw [if_pos c1] at h
          obtain ⟨o1, o2, o3, o4⟩ := lvS_ok c1
          have k3 := (sgn_3 (tp := tp) (tk := s.1) (by omega)).1
          obtain ⟨x1, x2, x3⟩ := hW.nx (show s.1.1 ≠ 0 by omega)
          rcases bnd_r h with ⟨p2, q1, q⟩ | ⟨s1, q1, q2⟩
          · cases q; exact ih _ _ _ _ _ (by omega) q1 x1
          · obtain ⟨a1, a2, a3, a4, a5, l1, a6⟩ := PF_b _ _ _ _ _ _ (by omega) q1 x1
            have e1 : (nxS tp n s).2 = s.2 := rfl
            rw [e1] at a2
            have hl : s1.2.1.length < s1.1.2.1 := by have := hW.2.1; omega
            by_cases c8 : m = 8
            · rw [if_pos c8] at q2; cases q2
            · rw [if_neg c8] at q2
              exact ih _ _ _ _ _ (by omega) q2 (a1.ad hl)
        · rw [if_neg c1] at h; cases h
theorem bnd_n {x : Option (Nat ⊕ PS)} {g : PS → Option (Nat ⊕ PS)} (h : bnd x g = none) : x = none ∨ ∃ s, x = some (.inr s) ∧ g s = none := by
  rcases x with _ | (pz | s)
  · exact Or.inl rfl
  · cases h
  · exact Or.inr ⟨s, rfl, h⟩
theorem PF_t : ∀ f m nt dp (s : PS), m ≤ 10 → PW tp n s → 16 * (n - s.1.2.1) + (if m ≤ 5 then 11 - m else 1) ≤ f → PF tp n key f m nt dp s ≠ none := by
  intro f
  induction f with
  | zero =>
    intro m nt dp s h10 hW hf
    split at hf <;> omega
  | succ f ih =>
    intro m nt dp s h10 hW hf h
    have hn := hW.1.1
    unfold PF at h
    by_cases h5 : m < 5
    · rw [if_pos h5] at h
      rw [if_pos (by omega)] at hf
      rcases bnd_n h with q | ⟨s1, q1, q2⟩
      · exact ih _ _ _ _ (by omega) hW (by rw [if_pos (by omega)]; omega) q
      · have g := PF_b _ _ _ _ _ _ (by omega) q1 hW
        have g1 := g.2.2.2.1 (by omega)
        have g2 := g.1.1.1
        exact ih _ _ _ _ (by omega) g.1 (by rw [if_neg (by omega)]; omega) q2
    · rw [if_neg h5] at h
      by_cases h6 : m = 5
      · rw [if_pos h6] at h
        rw [if_pos (by omega)] at hf
        by_cases c1 : isNu s
        · rw [if_pos c1] at h; cases h
        · rw [if_neg c1] at h
          by_cases c2 : isNa tp key s
          · rw [if_pos c2] at h; cases h
          · rw [if_neg c2] at h
            by_cases c3 : sgn tp s.1 = 33 ∧ nt < 8
            · rw [if_pos c3] at h
              have k3 := (sgn_3 (tp := tp) (tk := s.1) (by omega)).1
              obtain ⟨x1, x2, x3⟩ := hW.nx (show s.1.1 ≠ 0 by omega)
              rcases bnd_n h with q | ⟨s1, q1, q2⟩
              · exact ih _ _ _ _ (by omega) x1 (by rw [if_pos (by omega)]; omega) q
              · cases q2
            · rw [if_neg c3] at h
              by_cases c4 : sgn tp s.1 = 40 ∧ dp < 8
              · rw [if_pos c4] at h
                have k3 := (sgn_3 (tp := tp) (tk := s.1) (by omega)).1
                obtain ⟨x1, x2, x3⟩ := hW.nx (show s.1.1 ≠ 0 by omega)
                rcases bnd_n h with q | ⟨s1, q1, q2⟩
                · exact ih _ _ _ _ (by omega) x1 (by rw [if_pos (by omega)]; omega) q
                · split at q2 <;> cases q2
              · rw [if_neg c4] at h; cases h
      · rw [if_neg h6] at h
        rw [if_neg (by omega)] at hf
        by_cases c1 : lvS (m - 6) (sgn tp s.1) = true
        · rw [if_pos c1] at h
          obtain ⟨o1, o2, o3, o4⟩ := lvS_ok c1
          have k3 := (sgn_3 (tp := tp) (tk := s.1) (by omega)).1
          obtain ⟨x1, x2, x3⟩ := hW.nx (show s.1.1 ≠ 0 by omega)
          rcases bnd_n h with q | ⟨s1, q1, q2⟩
          · exact ih _ _ _ _ (by omega) x1 (by rw [if_pos (by omega)]; omega) q
          · obtain ⟨a1, a2, a3, a4, a5, l1, a6⟩ := PF_b _ _ _ _ _ _ (by omega) q1 x1
            have e1 : (nxS tp n s).2 = s.2 := rfl
            rw [e1] at a2
            have hl : s1.2.1.length < s1.1.2.1 := by have := hW.2.1; omega
            have a4 := a4 (by omega)
            have a0 := a1.1.1
            by_cases c8 : m = 8
            · rw [if_pos c8] at q2; cases q2
            · rw [if_neg c8] at q2
              exact ih _ _ _ _ (by omega) (a1.ad hl) (by rw [if_neg (by omega)]; show 16 * (n - s1.1.2.1) + 1 ≤ f; omega) q2
        · rw [if_neg c1] at h; cases h
end Pf
