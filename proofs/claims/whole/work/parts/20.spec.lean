/-! THE TOWN, as a value: how many people; their numbers (0 kind, 1 place, 2 size, 3 noise, 4 love); the town's numbers (by the reference's places: 2 day, 3 glances, 4 vanished, 5 bumps, 6 ceiling, 7 moves, 8 noises, 9 z, 50 screens); texts (key, how many words, steps) -/
abbrev Tx : Type := Nat × Nat × List (Nat × Int32)
abbrev Tn : Type := Nat × (Nat → Nat → Int32) × (Nat → Int32) × List Tx
def tN (A : Tn) : Nat := A.1
def tF (A : Tn) : Nat → Nat → Int32 := A.2.1
def tC (A : Tn) : Nat → Int32 := A.2.2.1
def tX (A : Tn) : List Tx := A.2.2.2
def oI : Option Nat → Int32
  | none => (-1)
  | some kz => nI kz
def whF (f : Nat → Nat → Int32) (pv : Int32) : Nat → Nat → Option Nat
  | 0, _ => none
  | r + 1, kz => if f kz 1 = pv then some kz else whF f pv r (kz + 1)
/-- whose a place is -/
def spW (A : Tn) (pv : Int32) : Option Nat := whF (tF A) pv (tN A) 0
/-- is there a screen -/
def scB (cv pv : Int32) : Bool := decide ((cv >>> (pv &&& 31)) &&& nI 1 = nI 1)
def spFr (A : Tn) (pv : Int32) : Bool := (spW A pv).isNone && !scB (tC A 50) pv
def thru (A : Tn) (tall : Int32) (pz : Nat) : Bool := !scB (tC A 50) (nI pz) && (match spW A (nI pz) with
  | none => true
  | some kz => decide (tF A kz 2 ≤ tall))
def clF (A : Tn) (tall : Int32) (stz hi : Nat) : Nat → Nat → Bool
  | 0, _ => true
  | r + 1, pz => if pz < hi then (if thru A tall pz = true then clF A tall stz hi r (pz + stz) else false) else true
def spClr (A : Tn) (pz qz : Nat) (tall : Int32) : Bool := clF A tall (if pz / 5 = qz / 5 then 1 else 5) (if pz < qz then qz else pz) 20 ((if pz < qz then pz else qz) + (if pz / 5 = qz / 5 then 1 else 5))
def plc (A : Tn) (kz : Nat) : Nat := ix (tF A kz 1)
def spSee (A : Tn) (az bz : Nat) : Bool := if az = bz ∨ (¬ plc A az / 5 = plc A bz / 5 ∧ ¬ plc A az % 5 = plc A bz % 5) then false
  else spClr A (plc A az) (plc A bz) (if tF A az 2 ≤ tF A bz 2 then tF A bz 2 else tF A az 2)
/-- a text in the reference's row -/
def MTx (s : Nat → Int32) (t : Nat) (tx : Tx) : Prop := s (51 + 200 * t) = nI tx.1 ∧ s (52 + 200 * t) = nI tx.2.1 ∧ s (53 + 200 * t) = nI tx.2.2.length ∧ ∀ (i w : Nat) (xv : Int32), tx.2.2[i]? = some (w, xv) → s (55 + 200 * t + 2 * i) = nI w ∧ s (56 + 200 * t + 2 * i) = xv
/-- the town in the reference's row -/
def MR (s : Nat → Int32) (A : Tn) : Prop := s 0 = nI (tN A) ∧ (∀ kz, kz < tN A → ∀ j, j < 5 → s (10 + 5 * kz + j) = tF A kz j) ∧ (∀ i, 2 ≤ i → i < 10 → s i = tC A i) ∧ s 50 = tC A 50 ∧ s 1 = nI (tX A).length ∧ ∀ (t : Nat) (tx : Tx), (tX A)[t]? = some tx → MTx s t tx
/-- what always holds of the people -/
def WFp (A : Tn) : Prop := tN A ≤ 8 ∧ (∀ kz, kz < tN A → (∃ pz, pz < 20 ∧ tF A kz 1 = nI pz) ∧ (∃ cz, cz < 6 ∧ tF A kz 0 = nI cz) ∧ rg 0 200 (tF A kz 2) = true ∧ rg 0 50 (tF A kz 3) = true ∧ rg (-1) 7 (tF A kz 4) = true) ∧
  (∀ i j, i < tN A → j < tN A → tF A i 1 = tF A j 1 → i = j) ∧ (∀ kz, kz < tN A → scB (tC A 50) (tF A kz 1) = false)
theorem whF_lt {f : Nat → Nat → Int32} {pv : Int32} : ∀ {r kz jz : Nat}, whF f pv r kz = some jz → kz ≤ jz ∧ jz < kz + r ∧ f jz 1 = pv := by
  intro r
  induction r with
  | zero => intro kz jz h; cases h
  | succ r ih =>
    intro kz jz h
    unfold whF at h
    split at h
    · rename_i h1
      cases h
      exact ⟨Nat.le_refl _, by omega, h1⟩
    · obtain ⟨a1, a2, a3⟩ := ih h
      exact ⟨by omega, by omega, a3⟩
theorem spW_lt {A : Tn} {pv : Int32} {jz : Nat} (h : spW A pv = some jz) : jz < tN A ∧ tF A jz 1 = pv := by
  obtain ⟨a1, a2, a3⟩ := whF_lt h
  exact ⟨by omega, a3⟩
theorem oI_neg {o : Option Nat} (h : ∀ kz, o = some kz → kz < 2 ^ 31) : (oI o < nI 0) ↔ o = none := by
  cases o with
  | none => exact iff_of_true (by decide +kernel) rfl
  | some kz => exact iff_of_false (by show ¬ nI kz < nI 0; rw [nI_ltI (h kz rfl) (by omega)]; omega) (fun z => by cases z)
theorem oI_pos {o : Option Nat} (h : ∀ kz, o = some kz → kz < 2 ^ 31) : (nI 0 ≤ oI o) ↔ o ≠ none := by
  cases o with
  | none => exact iff_of_false (by decide +kernel) (fun z => z rfl)
  | some kz => exact iff_of_true (by show nI 0 ≤ nI kz; rw [nI_leI (by omega) (h kz rfl)]; omega) (fun z => by cases z)
