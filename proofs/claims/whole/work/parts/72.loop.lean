/-! THE LAW: its loop, and where it starts -/
section Loop
variable {len d : Nat} {xs : Nat → Int32}
theorem and63 (xv : Int32) : ∃ cz, cz < 64 ∧ xv &&& nI 63 = nI cz := by
  refine ⟨(xv &&& nI 63).toBitVec.toNat, ?_, ?_⟩
  · rw [Int32.toBitVec_and, BitVec.toNat_and]
    have : (nI 63).toBitVec.toNat = 63 := by decide +kernel
    rw [this]
    exact Nat.lt_succ_of_le Nat.and_le_right
  · apply Int32.toBitVec_inj.mp
    show _ = BitVec.ofNat 32 _
    rw [BitVec.ofNat_toNat]
    simp
theorem neg6 : ∀ len, len < 6 → (nI len - nI 6).toInt < 0 := by decide +kernel
theorem lcmp {iz : Nat} (hl : len < 2 ^ 31) (hi : iz ≤ len) : (nI len - nI 6 < nI iz) ↔ len < iz + 6 := by
  by_cases h6 : 6 ≤ len
  · rw [pk_sub h6, nI_ltI (by omega) (by omega)]; omega
  · have := neg6 len (by omega)
    rw [Int32.lt_iff_toInt_lt, nI_toInt (by omega)]
    omega
theorem lw_loop (hl : len < 2 ^ 31) : ∀ k iz (σ : Nat → Nat → Int32) (A B : Tn) (im : Bool), INV σ A B im → iz ≤ len → len < iz + 6 * (k + 1) → ∃ σ2, Rn (some (len, xs)) (d + 100 + 1) 223 18 [some (.ref 1000), some (.ref 0), some (.ref 93), some (.int (nI iz))] [] (shp, σ) = some (some (.int (bI true)), (shp, σ2)) := by
  intro k
  induction k with
  | zero =>
    intro iz σ A B im hI hi hk
    have hc := (lcmp hl hi).mpr (by omega)
    refine ⟨σ, ?_⟩
    rw [e223_18]
    simp only [e223_19, e223_20, e223_21, e223_23, e223_24, hc, if_true, e223_1636, e223_1637, rz_1]
  | succ k ih =>
    intro iz σ A B im hI hi hk
    by_cases hq : len < iz + 6
    · have hc := (lcmp hl hi).mpr hq
      refine ⟨σ, ?_⟩
      rw [e223_18]
      simp only [e223_19, e223_20, e223_21, e223_23, e223_24, hc, if_true, e223_1636, e223_1637, rz_1]
    · have hc : ¬ nI len - nI 6 < nI iz := fun z => hq ((lcmp hl hi).mp z)
      have j0 : inb (nI iz) len = true := inb_n (by omega) (by omega)
      obtain ⟨cz, c64, ec⟩ := and63 (xs iz)
      have hgo : Rn (some (len, xs)) (d + 100 + 1) 223 18 [some (.ref 1000), some (.ref 0), some (.ref 93), some (.int (nI iz))] [] (shp, σ) = swZ (nI cz) 0 [232, 295, 328, 361, 394, 437, 470, 503, 526, 559, 582, 605, 628, 651, 674, 697, 720, 753, 786, 819, 842, 865, 908, 951, 994, 1027, 1040, 1063, 1106, 1129, 1142, 1175, 1198, 1241, 1284, 1307, 1330, 1393, 1436, 1469, 1502, 1535, 1558, 1581, 1594, 1607] 1630 (fun tg => Rn (some (len, xs)) (d + 100 + 1) 223 tg [some (.ref 1000), some (.ref 0), some (.ref 93), some (.int (nI iz))] [] (shp, σ)) := by
        rw [e223_18]
        simp (disch := first | omega | exact shz_1000 | assumption) only [e223_19, e223_20, e223_21, e223_23, e223_24, hc, if_false, e223_27, e223_28, e223_29, e223_30, e223_32, e223_33, ix_n, ec]
      have hend : ∀ (σ2 : Nat → Nat → Int32) (A2 B2 : Tn) (im2 : Bool), INV σ2 A2 B2 im2 → ∃ σ3, Rn (some (len, xs)) (d + 100 + 1) 223 1630 [some (.ref 1000), some (.ref 0), some (.ref 93), some (.int (nI iz))] [] (shp, σ2) = some (some (.int (bI true)), (shp, σ3)) := by
        intro σ2 A2 B2 im2 h2
        obtain ⟨σ3, g⟩ := ih (iz + 6) σ2 A2 B2 im2 h2 (by omega) (by omega)
        refine ⟨σ3, ?_⟩
        rw [← g, e223_1630, e223_1633, nI_add, clr_a]
      rw [hgo, swZ_eq _ _ _ _ _ (by decide), nI_toInt (by omega)]
      by_cases h46 : cz < 46
      · rw [if_neg (by simp only [List.length_cons, List.length_nil]; omega)]
        obtain ⟨σ2, A2, B2, im2, g1, g2⟩ := lw_all (len := len) (xs := xs) (d := d) h46 hI (show iz + 6 ≤ len by omega) hl
        obtain ⟨σ3, g3⟩ := hend σ2 A2 B2 im2 g2
        refine ⟨σ3, ?_⟩
        rw [← g3, ← g1]
        rfl
      · rw [if_pos (by simp only [List.length_cons, List.length_nil]; omega)]
        exact hend σ A B im hI
end Loop
