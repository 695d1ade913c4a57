/-! SMALL LAWS for the walks -/
theorem law_ini {E : aE} : RN E st0 = Rn E 200 223 18 [some (.ref 1000), some (.ref 0), some (.ref 93), some (.int 0)] [] (shp, sg0) := by
  have h1 := ini_ok
  unfold iniC at h1
  cases hy : ini with
  | none => rw [hy] at h1; cases h1
  | some y =>
    obtain ⟨y1, y2, y3, y4, y5, y6, y7⟩ := y
    rw [hy] at h1
    simp only [Bool.and_eq_true, decide_eq_true_eq] at h1
    obtain ⟨⟨⟨⟨⟨rfl, rfl⟩, rfl⟩, rfl⟩, rfl⟩, rfl⟩ := h1
    have h2 := adv_RN (E := E) 10 st0 _ hy
    rw [h2]
    unfold Rn sg0
    rw [hy]
theorem clr_i {xv : Int32} : clr (some (.int xv)) = some (.int xv) := rfl
theorem clr_a {xv : Nat} : clr (some (.ref xv)) = some (.ref xv) := rfl
theorem clr_n : clr none = none := rfl
theorem clK_s {vv : Option Value} {S : aSt} {K : Option Value → aSt → Option aRs} : clK (some (vv, S)) K = K vv S := rfl
theorem tl_s {vv : Value} {rest : List Value} : (some vv).toList ++ rest = vv :: rest := rfl
theorem tl_n {rest : List Value} : (none : Option Value).toList ++ rest = rest := rfl
def bI (b : Bool) : Int32 := if b = true then nI 1 else nI 0
theorem bI_t : bI true = nI 1 := rfl
theorem bI_f : bI false = nI 0 := rfl
theorem n10 : ¬ nI 1 = nI 0 := by decide +kernel
theorem bI_0 {b : Bool} : (bI b = nI 0) ↔ b = false := by cases b <;> simp [bI, n10]
theorem bI_n {b : Bool} : (¬ bI b = nI 0) ↔ b = true := by cases b <;> simp [bI, n10]
theorem rz_b {b : Bool} {S : aSt} : rzK (bI b) S = some (some (.int (bI b)), S) := by
  unfold rzK
  rw [if_pos]
  cases b
  · exact Or.inl (by decide +kernel)
  · exact Or.inr (by decide +kernel)
theorem rz_1 {S : aSt} : rzK (nI 1) S = some (some (.int (bI true)), S) := rz_b (b := true)
theorem rz_0 {S : aSt} : rzK (nI 0) S = some (some (.int (bI false)), S) := rz_b (b := false)
def irem (xv yv : Int32) : Int32 := xv - xv / yv * yv
theorem dv_n {xv : Int32} {kz : Nat} {K : Int32 → Option aRs} (h1 : 0 < kz) (h2 : kz < 2 ^ 31) : dvK xv (nI kz) K = K (xv / nI kz) := by
  unfold dvK; rw [if_neg (nI_ne0 h1 h2)]
theorem rm_n {xv : Int32} {kz : Nat} {K : Int32 → Option aRs} (h1 : 0 < kz) (h2 : kz < 2 ^ 31) : rmK xv (nI kz) K = K (irem xv (nI kz)) := by
  unfold rmK; rw [if_neg (nI_ne0 h1 h2)]; rfl
theorem inb_n {kz n : Nat} (h : kz < n) (hn : n < 2 ^ 31) : inb (nI kz) n = true := inb_iff.mpr (vp_in_nI h hn)
theorem ix_n {kz : Nat} (h : kz < 2 ^ 31) : ix (nI kz) = kz := nI_clamp h
theorem su_at {σ : Nat → Nat → Int32} {h i a j : Nat} {xv : Int32} : su σ h i xv a j = if a = h ∧ j = i then xv else σ a j := by
  unfold su sr upd
  by_cases h1 : a = h
  · subst h1
    by_cases h2 : j = i
    · simp [h2]
    · simp [h2]
  · simp [h1]
theorem su_row {σ : Nat → Nat → Int32} {h i a : Nat} {xv : Int32} (hn : a ≠ h) : su σ h i xv a = σ a := sr_ne hn
theorem su_rf {σ : Nat → Nat → Int32} {h i : Nat} {xv : Int32} : su σ h i xv h = upd (σ h) i xv := sr_eq
/-- within bounds -/
def rg (lo hi : Int) (xv : Int32) : Bool := decide (lo ≤ xv.toInt ∧ xv.toInt ≤ hi)
theorem rg_iff {lo hi : Int} {xv : Int32} : rg lo hi xv = true ↔ lo ≤ xv.toInt ∧ xv.toInt ≤ hi := decide_eq_true_iff
theorem rg_nI {n kz : Nat} (h : kz < 2 ^ 31) : rg 0 n (nI kz) = decide (kz ≤ n) := by
  unfold rg
  rw [nI_toInt h]
  congr 1
  apply propext
  omega
theorem rg_ex {n : Nat} {xv : Int32} (h : rg 0 n xv = true) : ∃ kz : Nat, kz ≤ n ∧ xv = nI kz := by
  have h1 := rg_iff.mp h
  refine ⟨xv.toInt.toNat, by omega, ?_⟩
  apply Int32.toInt_inj.mp
  have h2 : xv.toInt < 2 ^ 31 := Int32.toInt_lt xv
  rw [nI_toInt (by omega)]
  omega
theorem nI_m1 : (-1 : Int32).toInt = -1 := by decide +kernel
theorem l64_le {xv yv : Int32} : (xv.toInt64 ≤ yv.toInt64) ↔ xv.toInt ≤ yv.toInt := by
  rw [Int64.le_iff_toInt_le, Int32.toInt_toInt64, Int32.toInt_toInt64]
theorem l64_lt {xv yv : Int32} : (xv.toInt64 < yv.toInt64) ↔ xv.toInt < yv.toInt := by
  rw [Int64.lt_iff_toInt_lt, Int32.toInt_toInt64, Int32.toInt_toInt64]
theorem cmp_lt {xv yv : Int64} : (lg_cmp xv yv < nI 0) ↔ xv < yv := by
  unfold lg_cmp
  by_cases h1 : xv > yv
  · rw [if_pos h1]
    have h3 : ¬ xv < yv := by rw [Int64.lt_iff_toInt_lt] at *; have := Int64.lt_iff_toInt_lt.mp h1; omega
    exact iff_of_false (by decide +kernel) h3
  · rw [if_neg h1]
    by_cases h2 : xv = yv
    · rw [if_pos h2]
      subst h2
      exact iff_of_false (by decide +kernel) h1
    · rw [if_neg h2]
      have h3 : xv < yv := by
        have a1 : ¬ yv.toInt < xv.toInt := fun z => h1 (Int64.lt_iff_toInt_lt.mpr z)
        have a2 : ¬ xv.toInt = yv.toInt := fun z => h2 (Int64.toInt_inj.mp z)
        exact Int64.lt_iff_toInt_lt.mpr (by omega)
      exact iff_of_true (by decide +kernel) h3
theorem cmp_gt {xv yv : Int64} : (nI 0 < lg_cmp xv yv) ↔ yv < xv := by
  unfold lg_cmp
  by_cases h1 : xv > yv
  · rw [if_pos h1]
    exact iff_of_true (by decide +kernel) h1
  · rw [if_neg h1]
    by_cases h2 : xv = yv
    · rw [if_pos h2]
      exact iff_of_false (by decide +kernel) h1
    · rw [if_neg h2]
      exact iff_of_false (by decide +kernel) h1
