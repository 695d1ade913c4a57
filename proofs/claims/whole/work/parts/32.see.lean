/-! MASKS, and whom one sees -/
theorem mkF_or {pq : Nat → Bool} {av : Int32} : ∀ r kz (bv : Int32), mkF pq r kz (av ||| bv) = av ||| mkF pq r kz bv := by
  intro r
  induction r with
  | zero => intro kz bv; rfl
  | succ r ih =>
    intro kz bv
    unfold mkF
    by_cases h : pq kz = true
    · rw [if_pos h, if_pos h, Int32.or_assoc]; exact ih _ _
    · rw [if_neg h, if_neg h]; exact ih _ _
theorem mkF_0 {pq : Nat → Bool} {r kz : Nat} {av : Int32} : mkF pq r kz av = av ||| mkF pq r kz (nI 0) := by
  have := mkF_or (pq := pq) (av := av) r kz (nI 0)
  rw [or_0] at this
  exact this
theorem mkF_oo {pq qq : Nat → Bool} : ∀ r kz, mkF pq r kz (nI 0) ||| mkF qq r kz (nI 0) = mkF (fun k => pq k || qq k) r kz (nI 0) := by
  intro r
  induction r with
  | zero => intro kz; exact or_0 _
  | succ r ih =>
    intro kz
    have z0 : ∀ xv : Int32, nI 0 ||| xv = xv := fun xv => by rw [Int32.or_comm]; exact or_0 xv
    unfold mkF
    cases h1 : pq kz <;> cases h2 : qq kz
    · simp only [Bool.false_eq_true, if_false, Bool.or_false]; exact ih _
    · simp only [Bool.false_eq_true, if_false, if_true, Bool.or_true]
      rw [mkF_0 (pq := qq), mkF_0 (pq := fun k => pq k || qq k), ← ih (kz + 1)]
      generalize mkF pq r (kz + 1) (nI 0) = uv
      generalize mkF qq r (kz + 1) (nI 0) = vv
      generalize (nI 0 ||| nI 1 <<< (nI kz &&& 31)) = wv
      rw [← Int32.or_assoc, Int32.or_comm uv wv, Int32.or_assoc]
    · simp only [Bool.false_eq_true, if_false, if_true, Bool.or_false]
      rw [mkF_0 (pq := pq), mkF_0 (pq := fun k => pq k || qq k), ← ih (kz + 1), ← Int32.or_assoc]
    · simp only [if_true, Bool.or_true]
      rw [mkF_0 (pq := pq), mkF_0 (pq := qq), mkF_0 (pq := fun k => pq k || qq k), ← ih (kz + 1)]
      generalize mkF pq r (kz + 1) (nI 0) = uv
      generalize mkF qq r (kz + 1) (nI 0) = vv
      generalize (nI 0 ||| nI 1 <<< (nI kz &&& 31)) = wv
      rw [Int32.or_assoc, ← Int32.or_assoc uv, Int32.or_comm uv, Int32.or_assoc wv uv vv, ← Int32.or_assoc wv wv, Int32.or_self]
theorem mk_oo {pq qq : Nat → Bool} {nz : Nat} : mk pq nz ||| mk qq nz = mk (fun k => pq k || qq k) nz := mkF_oo _ _
theorem mk_one : ∀ oz, oz < 8 → nI 1 <<< (nI oz &&& 31) = mk (fun k => decide (k = oz)) 8 := by decide +kernel
theorem mkF_ext {pq qq : Nat → Bool} : ∀ r kz (av : Int32), (∀ k, kz ≤ k → k < kz + r → pq k = qq k) → mkF pq r kz av = mkF qq r kz av := by
  intro r
  induction r with
  | zero => intro kz av _; rfl
  | succ r ih =>
    intro kz av hq
    unfold mkF
    rw [hq kz (by omega) (by omega)]
    by_cases h : qq kz = true
    · rw [if_pos h, if_pos h]; exact ih _ _ (fun k h1 h2 => hq k (by omega) (by omega))
    · rw [if_neg h, if_neg h]; exact ih _ _ (fun k h1 h2 => hq k (by omega) (by omega))
theorem mk_ext {pq qq : Nat → Bool} {nz : Nat} (hq : ∀ k, k < nz → pq k = qq k) : mk pq nz = mk qq nz := mkF_ext _ _ _ (fun k _ h2 => hq k (by omega))
theorem mkF_app {pq : Nat → Bool} : ∀ r1 r2 kz (av : Int32), mkF pq (r1 + r2) kz av = mkF pq r2 (kz + r1) (mkF pq r1 kz av) := by
  intro r1
  induction r1 with
  | zero => intro r2 kz av; rw [Nat.zero_add]; rfl
  | succ r1 ih =>
    intro r2 kz av
    rw [show r1 + 1 + r2 = (r1 + r2) + 1 by omega]
    show (if pq kz = true then mkF pq (r1 + r2) (kz + 1) _ else mkF pq (r1 + r2) (kz + 1) av) = mkF pq r2 (kz + (r1 + 1)) (if pq kz = true then mkF pq r1 (kz + 1) _ else mkF pq r1 (kz + 1) av)
    rw [show kz + (r1 + 1) = kz + 1 + r1 by omega]
    by_cases h : pq kz = true
    · rw [if_pos h, if_pos h]; exact ih _ _ _
    · rw [if_neg h, if_neg h]; exact ih _ _ _
theorem mkF_no {pq : Nat → Bool} : ∀ r kz (av : Int32), (∀ k, kz ≤ k → pq k = false) → mkF pq r kz av = av := by
  intro r
  induction r with
  | zero => intro kz av _; rfl
  | succ r ih =>
    intro kz av hq
    unfold mkF
    rw [hq kz (by omega), if_neg (by decide)]
    exact ih _ _ (fun k hk => hq k (by omega))
theorem mk_8 {pq : Nat → Bool} {nz : Nat} (h8 : nz ≤ 8) : mk (fun k => decide (k < nz) && pq k) 8 = mk pq nz := by
  unfold mk
  rw [show 8 = nz + (8 - nz) by omega, mkF_app, mkF_no _ _ _ (fun k hk => by rw [decide_eq_false (by omega)]; rfl)]
  exact mkF_ext _ _ _ (fun k _ hk => by rw [decide_eq_true (by omega)]; rfl)
theorem mk_s {pq : Nat → Bool} {nz : Nat} : mk pq (nz + 1) = if pq nz = true then mk pq nz ||| nI 1 <<< (nI nz &&& 31) else mk pq nz := by
  unfold mk
  rw [mkF_app]
  show (if pq (0 + nz) = true then _ else _) = _
  rw [Nat.zero_add]
  rfl
theorem bt_step : ∀ kz, kz < 8 → ∀ az, az < 256 → az < 2 ^ kz → ∀ j, j < 8 → (az + 2 ^ kz) / 2 ^ j % 2 = (if j = kz then 1 else az / 2 ^ j % 2) := by decide +kernel
theorem mkF_bit {pq : Nat → Bool} : ∀ r kz az, kz + r ≤ 8 → az < 2 ^ kz → ∃ bz, bz < 2 ^ (kz + r) ∧ mkF pq r kz (nI az) = nI bz ∧ ∀ j, j < 8 → bz / 2 ^ j % 2 = if kz ≤ j ∧ j < kz + r ∧ pq j = true then 1 else az / 2 ^ j % 2 := by
  intro r
  induction r with
  | zero => intro kz az _ ha; exact ⟨az, ha, rfl, fun j _ => by rw [if_neg (by omega)]⟩
  | succ r ih =>
    intro kz az hk ha
    have h256 : (2 : Nat) ^ kz ≤ 2 ^ 8 := Nat.pow_le_pow_right (by omega) (by omega)
    have hs := mk_step kz (by omega) az (by omega) ha
    have hb := bt_step kz (by omega) az (by omega) ha
    have hp : (2 : Nat) ^ (kz + 1) = 2 ^ kz + 2 ^ kz := by rw [Nat.pow_succ]; omega
    by_cases h : pq kz = true
    · obtain ⟨bz, h1, h2, h3⟩ := ih (kz + 1) (az + 2 ^ kz) (by omega) (by omega)
      refine ⟨bz, by rw [show kz + (r + 1) = kz + 1 + r by omega]; exact h1, ?_, ?_⟩
      · simp only [mkF, h, if_true]; rw [hs.1]; exact h2
      · intro j hj
        rw [h3 j hj, hb j hj]
        by_cases hq : j = kz
        · rw [if_neg (by omega), if_pos hq, if_pos ⟨by omega, by omega, by rw [hq]; exact h⟩]
        · rw [if_neg hq]
          by_cases hc : kz + 1 ≤ j ∧ j < kz + 1 + r ∧ pq j = true
          · rw [if_pos hc, if_pos ⟨by omega, by omega, hc.2.2⟩]
          · rw [if_neg hc, if_neg (fun z => hc ⟨by omega, by omega, z.2.2⟩)]
    · obtain ⟨bz, h1, h2, h3⟩ := ih (kz + 1) az (by omega) (by omega)
      refine ⟨bz, by rw [show kz + (r + 1) = kz + 1 + r by omega]; exact h1, ?_, ?_⟩
      · simp only [mkF, h, if_false]; exact h2
      · intro j hj
        rw [h3 j hj]
        by_cases hc : kz + 1 ≤ j ∧ j < kz + 1 + r ∧ pq j = true
        · rw [if_pos hc, if_pos ⟨by omega, by omega, hc.2.2⟩]
        · rw [if_neg hc, if_neg (fun z => ?_)]
          rcases Nat.lt_or_ge kz j with hl | hl
          · exact hc ⟨by omega, by omega, z.2.2⟩
          · exact h (by rw [show kz = j by omega]; exact z.2.2)
theorem mk_bit {pq : Nat → Bool} {kz : Nat} (hk : kz < 8) : ((mk pq 8 >>> (nI kz &&& 31)) &&& nI 1 = nI 0) ↔ pq kz = false := by
  obtain ⟨bz, h1, h2, h3⟩ := mkF_bit (pq := pq) 8 0 0 (by omega) (by decide)
  have h2 : mk pq 8 = nI bz := h2
  rw [h2, bit_n bz (by omega) kz hk, h3 kz hk]
  cases hq : pq kz with
  | true => rw [if_pos ⟨by omega, by omega, rfl⟩]; exact iff_of_false n10 (by decide)
  | false => rw [if_neg (by simp)]; exact iff_of_true (by rw [Nat.zero_div]) rfl
theorem imax_le {xv yv zv : Int32} : (imax xv yv ≤ zv) ↔ xv ≤ zv ∧ yv ≤ zv := by
  unfold imax
  simp only [Int32.le_iff_toInt_le, Int32.lt_iff_toInt_lt]
  by_cases h : xv.toInt < yv.toInt
  · rw [if_pos h]; omega
  · rw [if_neg h]; omega
theorem imax_c {xv yv : Int32} : imax xv yv = if xv ≤ yv then yv else xv := by
  unfold imax
  by_cases h : xv < yv
  · have h2 : xv ≤ yv := by rw [Int32.le_iff_toInt_le]; rw [Int32.lt_iff_toInt_lt] at h; omega
    rw [if_pos h, if_pos h2]
  · rw [if_neg h]
    by_cases h2 : xv ≤ yv
    · rw [if_pos h2]
      apply Int32.toInt_inj.mp
      rw [Int32.le_iff_toInt_le] at h2
      rw [Int32.lt_iff_toInt_lt] at h
      omega
    · rw [if_neg h2]
/-- along one direction: f is where the steps lead -/
def alF (A : Tn) (sv : Int32) (f : Nat → Nat) : Nat → Nat → Int32 → (Nat → Bool) → Nat → Bool
  | 0, _, _, pq => pq
  | r + 1, i, bt, pq => if scB (tC A 50) (nI (f (i + 1))) = true then pq else (match spW A (nI (f (i + 1))) with
    | none => alF A sv f r (i + 1) bt pq
    | some oz => alF A sv f r (i + 1) (imax bt (tF A oz 2)) (if bt ≤ imax sv (tF A oz 2) then (fun k => pq k || decide (k = oz)) else pq))
theorem thru_n {A : Tn} {tall : Int32} {pz : Nat} (h1 : scB (tC A 50) (nI pz) = false) (h2 : spW A (nI pz) = none) : thru A tall pz = true := by simp [thru, h1, h2]
theorem thru_s {A : Tn} {tall : Int32} {pz oz : Nat} (h1 : scB (tC A 50) (nI pz) = false) (h2 : spW A (nI pz) = some oz) : thru A tall pz = true ↔ tF A oz 2 ≤ tall := by simp [thru, h1, h2]
theorem thru_sc {A : Tn} {tall : Int32} {pz : Nat} (h1 : scB (tC A 50) (nI pz) = true) : thru A tall pz = false := by simp [thru, h1]
theorem al_iff {A : Tn} (hW : WFp A) {kz stn : Nat} {f : Nat → Nat} {sv : Int32} (hk : kz < tN A) (hf : ∀ i, i ≤ stn → f i < 20) (hinj : ∀ i j, i ≤ stn → j ≤ stn → f i = f j → i = j) : ∀ r i (bt : Int32) (pq : Nat → Bool), i + r = stn →
    (alF A sv f r i bt pq kz = true ↔ pq kz = true ∨ (bt ≤ imax sv (tF A kz 2) ∧ ∃ j, i < j ∧ j ≤ stn ∧ nI (f j) = tF A kz 1 ∧ ∀ m, i < m → m < j → thru A (imax sv (tF A kz 2)) (f m) = true)) := by
  intro r
  induction r with
  | zero =>
    intro i bt pq hi
    show pq kz = true ↔ _
    constructor
    · exact Or.inl
    · rintro (h1 | ⟨_, j, h2, h3, _⟩)
      · exact h1
      · omega
  | succ r ih =>
    intro i bt pq hi
    have hq20 := hf (i + 1) (by omega)
    unfold alF
    cases hs : scB (tC A 50) (nI (f (i + 1))) with
    | true =>
      simp only [if_true]
      constructor
      · exact Or.inl
      · rintro (h1 | ⟨_, j, h2, h3, h4, h5⟩)
        · exact h1
        · exfalso
          rcases Nat.lt_or_ge (i + 1) j with hj | hj
          · have := h5 (i + 1) (by omega) hj
            rw [thru_sc hs] at this
            cases this
          · have hj : j = i + 1 := by omega
            subst hj
            have := hW.2.2.2 kz hk
            rw [← h4, hs] at this
            cases this
    | false =>
      simp only [Bool.false_eq_true, if_false]
      cases hw : spW A (nI (f (i + 1))) with
      | none =>
        simp only
        rw [ih (i + 1) bt pq (by omega)]
        have hne := spW_none hw kz hk
        constructor
        · rintro (h1 | ⟨h0, j, h2, h3, h4, h5⟩)
          · exact Or.inl h1
          · refine Or.inr ⟨h0, j, by omega, h3, h4, fun m m1 m2 => ?_⟩
            by_cases hm : m = i + 1
            · rw [hm]; exact thru_n hs hw
            · exact h5 m (by omega) m2
        · rintro (h1 | ⟨h0, j, h2, h3, h4, h5⟩)
          · exact Or.inl h1
          · by_cases hj : j = i + 1
            · subst hj; exact absurd h4.symm hne
            · exact Or.inr ⟨h0, j, by omega, h3, h4, fun m m1 m2 => h5 m (by omega) m2⟩
      | some oz =>
        simp only
        rw [ih (i + 1) _ _ (by omega)]
        obtain ⟨w1, w2⟩ := spW_lt hw
        by_cases hok : oz = kz
        · subst hok
          constructor
          · rintro (h1 | ⟨_, j, h2, h3, h4, _⟩)
            · by_cases hb : bt ≤ imax sv (tF A oz 2)
              · exact Or.inr ⟨hb, i + 1, by omega, by omega, w2.symm, fun m m1 m2 => by omega⟩
              · rw [if_neg hb] at h1; exact Or.inl h1
            · exfalso
              rw [w2] at h4
              have := hinj j (i + 1) h3 (by omega) ((nI_eq (by have := hf j h3; omega) (by omega)).mp h4)
              omega
          · rintro (h1 | ⟨h0, _⟩)
            · refine Or.inl ?_
              by_cases hb : bt ≤ imax sv (tF A oz 2)
              · rw [if_pos hb]; simp
              · rw [if_neg hb]; exact h1
            · refine Or.inl ?_
              rw [if_pos h0]; simp
        · have hne : nI (f (i + 1)) ≠ tF A kz 1 := fun z => hok (hW.2.2.1 oz kz w1 hk (w2.trans z))
          have hp : (if bt ≤ imax sv (tF A oz 2) then (fun k => pq k || decide (k = oz)) else pq) kz = pq kz := by
            by_cases hb : bt ≤ imax sv (tF A oz 2)
            · rw [if_pos hb]
              show (pq kz || decide (kz = oz)) = pq kz
              rw [decide_eq_false (fun z => hok z.symm), Bool.or_false]
            · rw [if_neg hb]
          rw [hp, imax_le]
          constructor
          · rintro (h1 | ⟨⟨h0, g0⟩, j, h2, h3, h4, h5⟩)
            · exact Or.inl h1
            · refine Or.inr ⟨h0, j, by omega, h3, h4, fun m m1 m2 => ?_⟩
              by_cases hm : m = i + 1
              · rw [hm]; exact (thru_s hs hw).mpr g0
              · exact h5 m (by omega) m2
          · rintro (h1 | ⟨h0, j, h2, h3, h4, h5⟩)
            · exact Or.inl h1
            · by_cases hj : j = i + 1
              · subst hj; exact absurd h4 hne
              · exact Or.inr ⟨⟨h0, (thru_s hs hw).mp (h5 (i + 1) (by omega) (by omega))⟩, j, by omega, h3, h4, fun m m1 m2 => h5 m (by omega) m2⟩
theorem clF_iff {A : Tn} {tall : Int32} {stz hi : Nat} (hs : 0 < stz) : ∀ r pz, clF A tall stz hi r pz = true ↔ ∀ m, m < r → pz + m * stz < hi → thru A tall (pz + m * stz) = true := by
  intro r
  induction r with
  | zero => intro pz; exact iff_of_true rfl (fun m hm => by omega)
  | succ r ih =>
    intro pz
    unfold clF
    by_cases h1 : pz < hi
    · rw [if_pos h1]
      by_cases h2 : thru A tall pz = true
      · rw [if_pos h2, ih]
        constructor
        · intro g m hm hl
          cases m with
          | zero => rw [Nat.zero_mul, Nat.add_zero]; exact h2
          | succ m =>
            have e : pz + (m + 1) * stz = pz + stz + m * stz := by rw [Nat.succ_mul]; omega
            rw [e] at hl ⊢
            exact g m (by omega) hl
        · intro g m hm hl
          have e : pz + (m + 1) * stz = pz + stz + m * stz := by rw [Nat.succ_mul]; omega
          have := g (m + 1) (by omega) (by rw [e]; exact hl)
          rw [e] at this
          exact this
      · rw [if_neg h2]
        refine iff_of_false (by decide) (fun g => h2 ?_)
        have := g 0 (by omega) (by rw [Nat.zero_mul]; omega)
        rw [Nat.zero_mul, Nat.add_zero] at this
        exact this
    · rw [if_neg h1]
      refine iff_of_true rfl (fun m hm hl => ?_)
      have : 0 ≤ m * stz := Nat.zero_le _
      omega
def dL (pz i : Nat) : Nat := pz - i
def dR (pz i : Nat) : Nat := pz + i
def dU (pz i : Nat) : Nat := pz - 5 * i
def dD (pz i : Nat) : Nat := pz + 5 * i
def wayX (tq : Nat → Bool) (f : Nat → Nat) (stn qz : Nat) : Prop := ∃ j, 0 < j ∧ j ≤ stn ∧ f j = qz ∧ ∀ m, 0 < m → m < j → tq (f m) = true
theorem way_iff {tq : Nat → Bool} {pz qz : Nat} (hp : pz < 20) (hq : qz < 20) : (wayX tq (dL pz) (pz % 5) qz ∨ wayX tq (dR pz) (4 - pz % 5) qz ∨ wayX tq (dU pz) (pz / 5) qz ∨ wayX tq (dD pz) (3 - pz / 5) qz) ↔
    pz ≠ qz ∧ (pz / 5 = qz / 5 ∨ pz % 5 = qz % 5) ∧ (∀ m, m < 20 → (if pz < qz then pz else qz) + (if pz / 5 = qz / 5 then 1 else 5) + m * (if pz / 5 = qz / 5 then 1 else 5) < (if pz < qz then qz else pz) → tq ((if pz < qz then pz else qz) + (if pz / 5 = qz / 5 then 1 else 5) + m * (if pz / 5 = qz / 5 then 1 else 5)) = true) := by
  unfold wayX dL dR dU dD
  constructor
  · rintro (⟨j, a1, a2, a3, a4⟩ | ⟨j, a1, a2, a3, a4⟩ | ⟨j, a1, a2, a3, a4⟩ | ⟨j, a1, a2, a3, a4⟩)
    · have b1 : pz / 5 = qz / 5 := by omega
      have b2 : ¬ pz < qz := by omega
      refine ⟨by omega, Or.inl b1, ?_⟩
      rw [if_neg b2, if_neg b2, if_pos b1]
      intro m hm hl
      have := a4 (pz - (qz + 1 + m)) (by omega) (by omega)
      rw [show pz - (pz - (qz + 1 + m)) = qz + 1 + m * 1 by omega] at this
      exact this
    · have b1 : pz / 5 = qz / 5 := by omega
      have b2 : pz < qz := by omega
      refine ⟨by omega, Or.inl b1, ?_⟩
      rw [if_pos b2, if_pos b2, if_pos b1]
      intro m hm hl
      have := a4 (1 + m) (by omega) (by omega)
      rw [show pz + (1 + m) = pz + 1 + m * 1 by omega] at this
      exact this
    · have b1 : ¬ pz / 5 = qz / 5 := by omega
      have b2 : ¬ pz < qz := by omega
      refine ⟨by omega, Or.inr (by omega), ?_⟩
      rw [if_neg b2, if_neg b2, if_neg b1]
      intro m hm hl
      have := a4 (j - (1 + m)) (by omega) (by omega)
      rw [show pz - 5 * (j - (1 + m)) = qz + 5 + m * 5 by omega] at this
      exact this
    · have b1 : ¬ pz / 5 = qz / 5 := by omega
      have b2 : pz < qz := by omega
      refine ⟨by omega, Or.inr (by omega), ?_⟩
      rw [if_pos b2, if_pos b2, if_neg b1]
      intro m hm hl
      have := a4 (1 + m) (by omega) (by omega)
      rw [show pz + 5 * (1 + m) = pz + 5 + m * 5 by omega] at this
      exact this
  · rintro ⟨h1, h2, h3⟩
    by_cases b1 : pz / 5 = qz / 5 <;> by_cases b2 : pz < qz
    · rw [if_pos b2, if_pos b2, if_pos b1] at h3
      refine Or.inr (Or.inl ⟨qz - pz, by omega, by omega, by omega, fun m m1 m2 => ?_⟩)
      have := h3 (m - 1) (by omega) (by omega)
      rw [show pz + 1 + (m - 1) * 1 = pz + m by omega] at this
      exact this
    · rw [if_neg b2, if_neg b2, if_pos b1] at h3
      refine Or.inl ⟨pz - qz, by omega, by omega, by omega, fun m m1 m2 => ?_⟩
      have := h3 (pz - m - qz - 1) (by omega) (by omega)
      rw [show qz + 1 + (pz - m - qz - 1) * 1 = pz - m by omega] at this
      exact this
    · rw [if_pos b2, if_pos b2, if_neg b1] at h3
      refine Or.inr (Or.inr (Or.inr ⟨(qz - pz) / 5, by omega, by omega, by omega, fun m m1 m2 => ?_⟩))
      have := h3 (m - 1) (by omega) (by omega)
      rw [show pz + 5 + (m - 1) * 5 = pz + 5 * m by omega] at this
      exact this
    · rw [if_neg b2, if_neg b2, if_neg b1] at h3
      refine Or.inr (Or.inr (Or.inl ⟨(pz - qz) / 5, by omega, by omega, by omega, fun m m1 m2 => ?_⟩))
      have := h3 ((pz - qz) / 5 - m - 1) (by omega) (by omega)
      rw [show qz + 5 + ((pz - qz) / 5 - m - 1) * 5 = pz - 5 * m by omega] at this
      exact this
/-- all four directions -/
def seeP (A : Tn) (az : Nat) (kz : Nat) : Bool := alF A (tF A az 2) (dL (plc A az)) (plc A az % 5) 0 (nI 0) (fun _ => false) kz || alF A (tF A az 2) (dR (plc A az)) (4 - plc A az % 5) 0 (nI 0) (fun _ => false) kz || alF A (tF A az 2) (dU (plc A az)) (plc A az / 5) 0 (nI 0) (fun _ => false) kz || alF A (tF A az 2) (dD (plc A az)) (3 - plc A az / 5) 0 (nI 0) (fun _ => false) kz
theorem see_eq {A : Tn} {az kz : Nat} (hW : WFp A) (ha : az < tN A) (hk : kz < tN A) : seeP A az kz = spSee A az kz := by
  obtain ⟨pz, hp, ep⟩ := (hW.2.1 az ha).1
  obtain ⟨qz, hq, eq⟩ := (hW.2.1 kz hk).1
  have g1 : plc A az = pz := by unfold plc; rw [ep]; exact ix_n (by omega)
  have g2 : plc A kz = qz := by unfold plc; rw [eq]; exact ix_n (by omega)
  have h0 : nI 0 ≤ imax (tF A az 2) (tF A kz 2) := by
    have r1 := (rg_iff.mp (hW.2.1 az ha).2.2.1).1
    have r2 := (rg_iff.mp (hW.2.1 kz hk).2.2.1).1
    rw [Int32.le_iff_toInt_le, nI_toInt (by omega)]
    unfold imax
    split <;> omega
  have one : ∀ (f : Nat → Nat) (stn : Nat), (∀ i, i ≤ stn → f i < 20) → (∀ i j, i ≤ stn → j ≤ stn → f i = f j → i = j) → (alF A (tF A az 2) f stn 0 (nI 0) (fun _ => false) kz = true ↔ wayX (thru A (imax (tF A az 2) (tF A kz 2))) f stn qz) := by
    intro f stn f1 f2
    rw [al_iff hW hk f1 f2 stn 0 (nI 0) (fun _ => false) (by omega)]
    unfold wayX
    constructor
    · rintro (z | ⟨_, j, j1, j2, j3, j4⟩)
      · cases z
      · rw [eq] at j3
        exact ⟨j, j1, j2, (nI_eq (by have := f1 j j2; omega) (by omega)).mp j3, j4⟩
    · rintro ⟨j, j1, j2, j3, j4⟩
      exact Or.inr ⟨h0, j, j1, j2, by rw [eq, j3], j4⟩
  apply Bool.eq_iff_iff.mpr
  unfold seeP
  rw [g1]
  simp only [Bool.or_eq_true]
  rw [one (dL pz) (pz % 5) (fun i hi => by unfold dL; omega) (fun i j hi hj => by unfold dL; omega), one (dR pz) (4 - pz % 5) (fun i hi => by unfold dR; omega) (fun i j hi hj => by unfold dR; omega), one (dU pz) (pz / 5) (fun i hi => by unfold dU; omega) (fun i j hi hj => by unfold dU; omega), one (dD pz) (3 - pz / 5) (fun i hi => by unfold dD; omega) (fun i j hi hj => by unfold dD; omega)]
  rw [or_assoc, or_assoc, way_iff hp hq]
  unfold spSee spClr
  rw [g1, g2, ← imax_c]
  by_cases hc : az = kz ∨ (¬ pz / 5 = qz / 5 ∧ ¬ pz % 5 = qz % 5)
  · rw [if_pos hc]
    refine iff_of_false (fun z => ?_) (by decide)
    rcases hc with rfl | hc
    · have : pz = qz := by omega
      exact z.1 this
    · rcases z.2.1 with h1 | h1
      · exact hc.1 h1
      · exact hc.2 h1
  · rw [if_neg hc]
    have hne : pz ≠ qz := by
      intro z
      exact hc (Or.inl (hW.2.2.1 az kz ha hk (by rw [ep, eq, z])))
    have hrc : pz / 5 = qz / 5 ∨ pz % 5 = qz % 5 := by
      by_cases h5 : pz / 5 = qz / 5
      · exact Or.inl h5
      · by_cases h6 : pz % 5 = qz % 5
        · exact Or.inr h6
        · exact absurd (Or.inr ⟨h5, h6⟩) hc
    by_cases hst : pz / 5 = qz / 5
    · simp only [hst, if_true]
      rw [clF_iff (by omega)]
      exact ⟨fun z => z.2.2, fun z => ⟨hne, Or.inl trivial, z⟩⟩
    · simp only [hst, if_false]
      rw [clF_iff (by omega)]
      exact ⟨fun z => z.2.2, fun z => ⟨hne, Or.inr (by omega), z⟩⟩
