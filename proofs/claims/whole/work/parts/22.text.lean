/-! TEXTS: what they give -/
/-- signs -/
def jn (cv xv yv : Int32) : Int32 := if cv = nI 43 then xv + yv else if cv = nI 45 then xv - yv else if cv = nI 42 then xv * yv else if cv = nI 47 then (if yv = nI 0 then nI 0 else xv / yv)
  else if cv = nI 60 then bI (decide (xv < yv)) else if cv = nI 62 then bI (decide (yv < xv)) else if cv = nI 61 then bI (decide (xv = yv)) else if cv = nI 38 then bI (decide (¬ xv = nI 0 ∧ ¬ yv = nI 0)) else bI (decide (¬ xv = nI 0 ∨ ¬ yv = nI 0))
/-- one step: 0 a number, 1 a name, 2 a sign -/
def ev1 (nm : Int32 → Int32) (pp : Nat × Int32) (st : List Int32) : List Int32 := if pp.1 = 2 then (if pp.2 = nI 33 then (match st with
    | xv :: r => bI (decide (xv = nI 0)) :: r
    | [] => [])
  else (match st with
    | yv :: xv :: r => jn pp.2 xv yv :: r
    | r => r)) else (if pp.1 = 0 then pp.2 else nm pp.2) :: st
def evL (nm : Int32 → Int32) : List (Nat × Int32) → List Int32 → List Int32
  | [], st => st
  | pp :: r, st => evL nm r (ev1 nm pp st)
def evT (nm : Int32 → Int32) (pr : List (Nat × Int32)) : Int32 := (evL nm pr []).headD 0
/-- no step wants more than there is, and one number is left -/
def dpt : List (Nat × Int32) → Nat → Bool
  | [], dz => dz == 1
  | pp :: r, dz => if pp.1 = 2 then (if pp.2 = nI 33 then decide (1 ≤ dz) && dpt r dz else decide (2 ≤ dz) && dpt r (dz - 1)) else dpt r (dz + 1)
/-- a step is of its kinds; names are letters of the key: 0 s n f, 1 g v, 2 s p -/
def nmK (key lz : Nat) : Bool := if key = 0 then lz == 115 || lz == 110 || lz == 102 else if key = 1 then lz == 103 || lz == 118 else lz == 115 || lz == 112
def sgK (cz : Nat) : Bool := cz == 33 || cz == 38 || cz == 42 || cz == 43 || cz == 45 || cz == 47 || cz == 60 || cz == 61 || cz == 62 || cz == 124
def okP (key : Nat) (pp : Nat × Int32) : Prop := (pp.1 = 0 ∧ ∃ nz, nz < 10000 ∧ pp.2 = nI nz) ∨ (pp.1 = 1 ∧ ∃ lz, nmK key lz = true ∧ pp.2 = nI lz) ∨ (pp.1 = 2 ∧ ∃ cz, sgK cz = true ∧ pp.2 = nI cz)
def okTx (tx : Tx) : Prop := tx.1 < 3 ∧ tx.2.2.length ≤ 96 ∧ dpt tx.2.2 0 = true ∧ tx.2.1 ≤ 96 ∧ ∀ pp ∈ tx.2.2, okP tx.1 pp
theorem nmK_lt {key lz : Nat} (h : nmK key lz = true) : lz < 128 := by
  unfold nmK at h
  split at h
  · simp only [Bool.or_eq_true, beq_iff_eq] at h; omega
  · split at h <;> simp only [Bool.or_eq_true, beq_iff_eq] at h <;> omega
/-- a pile in a row -/
def PL (row : Nat → Int32) : List Int32 → Prop
  | [] => True
  | xv :: r => row r.length = xv ∧ PL row r
theorem PL_upd {row : Nat → Int32} {i : Nat} {xv : Int32} : ∀ {r : List Int32}, PL row r → r.length ≤ i → PL (upd row i xv) r := by
  intro r
  induction r with
  | nil => intro _ _; trivial
  | cons a r ih =>
    intro h hl
    simp only [List.length_cons] at hl
    exact ⟨by rw [pk_un (by omega)]; exact h.1, ih h.2 (by omega)⟩
theorem PL_push {row : Nat → Int32} {xv : Int32} {r : List Int32} (h : PL row r) : PL (upd row r.length xv) (xv :: r) := ⟨pk_us, PL_upd h (Nat.le_refl _)⟩
/-- only these rows change -/
def Fr (l : List Nat) (σ σ' : Nat → Nat → Int32) : Prop := ∀ a, a ∉ l → σ' a = σ a
theorem Fr.rf {l : List Nat} {σ : Nat → Nat → Int32} : Fr l σ σ := fun _ _ => rfl
theorem Fr.tr {l : List Nat} {σ σ1 σ2 : Nat → Nat → Int32} (h1 : Fr l σ σ1) (h2 : Fr l σ1 σ2) : Fr l σ σ2 := fun a ha => (h2 a ha).trans (h1 a ha)
theorem Fr.su {l : List Nat} {σ σ1 : Nat → Nat → Int32} {h i : Nat} {xv : Int32} (h1 : Fr l σ σ1) (hh : h ∈ l) : Fr l σ (su σ1 h i xv) := fun a ha => (su_row (fun z => ha (by rw [z]; exact hh))).trans (h1 a ha)
theorem Fr.mono {l l' : List Nat} {σ σ' : Nat → Nat → Int32} (h : Fr l σ σ') (hl : ∀ a ∈ l, a ∈ l') : Fr l' σ σ' := fun a ha => h a (fun z => ha (hl a z))
theorem div_m1 (xv : Int32) : xv / (-1) = -xv := by
  apply Int32.toInt_inj.mp
  rw [Int32.toInt_div, nI_m1, Int.tdiv_neg, Int.tdiv_one, Int32.toInt_neg]
/-- the last text of a key -/
def lkA (key : Nat) : List Tx → Nat → Option Nat → Option Nat
  | [], _, acc => acc
  | tx :: r, i, acc => lkA key r (i + 1) (if tx.1 = key then some i else acc)
def lastK (l : List Tx) (key : Nat) : Option Nat := lkA key l 0 none
theorem lkA_lt {key : Nat} : ∀ {l : List Tx} {i : Nat} {acc : Option Nat} {jz : Nat}, lkA key l i acc = some jz → acc = some jz ∨ (i ≤ jz ∧ jz < i + l.length ∧ ∃ tx, l[jz - i]? = some tx ∧ tx.1 = key) := by
  intro l
  induction l with
  | nil => intro i acc jz h; exact Or.inl h
  | cons tx l ih =>
    intro i acc jz h
    rcases ih h with h1 | ⟨h1, h2, tx2, h3, h4⟩
    · by_cases hk : tx.1 = key
      · rw [if_pos hk] at h1
        cases h1
        exact Or.inr ⟨Nat.le_refl _, by simp, tx, by simp, hk⟩
      · rw [if_neg hk] at h1
        exact Or.inl h1
    · refine Or.inr ⟨by omega, by simp only [List.length_cons]; omega, tx2, ?_, h4⟩
      rw [show jz - i = (jz - (i + 1)) + 1 by omega]
      simpa using h3
theorem lastK_ok {l : List Tx} {key jz : Nat} (h : lastK l key = some jz) : jz < l.length ∧ ∃ tx, l[jz]? = some tx ∧ tx.1 = key := by
  rcases lkA_lt h with h1 | ⟨h1, h2, tx, h3, h4⟩
  · cases h1
  · exact ⟨by omega, tx, by simpa using h3, h4⟩
