/-! LITTLE METHODS of both sides; towns copied; a day's helpers -/
section Lit
theorem tI_0 : (nI 0).toInt = 0 := nI_toInt (by omega)
theorem tI_1 : (nI 1).toInt = 1 := nI_toInt (by omega)
theorem tI_2 : (nI 2).toInt = 2 := nI_toInt (by omega)
theorem tI_3 : (nI 3).toInt = 3 := nI_toInt (by omega)
theorem tI_4 : (nI 4).toInt = 4 := nI_toInt (by omega)
theorem tI_5 : (nI 5).toInt = 5 := nI_toInt (by omega)
theorem tI_6 : (nI 6).toInt = 6 := nI_toInt (by omega)
theorem tI_7 : (nI 7).toInt = 7 := nI_toInt (by omega)
theorem tI_8 : (nI 8).toInt = 8 := nI_toInt (by omega)
theorem tI_19 : (nI 19).toInt = 19 := nI_toInt (by omega)
theorem tI_20 : (nI 20).toInt = 20 := nI_toInt (by omega)
theorem tI_23 : (nI 23).toInt = 23 := nI_toInt (by omega)
theorem tI_24 : (nI 24).toInt = 24 := nI_toInt (by omega)
theorem tI_29 : (nI 29).toInt = 29 := nI_toInt (by omega)
theorem tI_30 : (nI 30).toInt = 30 := nI_toInt (by omega)
theorem tI_48 : (nI 48).toInt = 48 := nI_toInt (by omega)
theorem tI_50 : (nI 50).toInt = 50 := nI_toInt (by omega)
theorem tI_57 : (nI 57).toInt = 57 := nI_toInt (by omega)
theorem tI_60 : (nI 60).toInt = 60 := nI_toInt (by omega)
theorem tI_97 : (nI 97).toInt = 97 := nI_toInt (by omega)
theorem tI_100 : (nI 100).toInt = 100 := nI_toInt (by omega)
theorem tI_122 : (nI 122).toInt = 122 := nI_toInt (by omega)
theorem tI_200 : (nI 200).toInt = 200 := nI_toInt (by omega)
theorem tI_99999 : (nI 99999).toInt = 99999 := nI_toInt (by omega)
theorem tI_m1 : (-1 : Int32).toInt = -1 := nI_m1
theorem tI_m99999 : (-99999 : Int32).toInt = -99999 := by decide +kernel
theorem tL_0 : (0 : Int64).toInt = 0 := by decide +kernel
theorem tL_1 : (1 : Int64).toInt = 1 := by decide +kernel
theorem tL_2 : (2 : Int64).toInt = 2 := by decide +kernel
theorem tL_3 : (3 : Int64).toInt = 3 := by decide +kernel
theorem tL_4 : (4 : Int64).toInt = 4 := by decide +kernel
theorem tL_5 : (5 : Int64).toInt = 5 := by decide +kernel
theorem tL_6 : (6 : Int64).toInt = 6 := by decide +kernel
theorem tL_7 : (7 : Int64).toInt = 7 := by decide +kernel
theorem tL_8 : (8 : Int64).toInt = 8 := by decide +kernel
theorem tL_19 : (19 : Int64).toInt = 19 := by decide +kernel
theorem tL_30 : (30 : Int64).toInt = 30 := by decide +kernel
theorem tL_48 : (48 : Int64).toInt = 48 := by decide +kernel
theorem tL_50 : (50 : Int64).toInt = 50 := by decide +kernel
theorem tL_57 : (57 : Int64).toInt = 57 := by decide +kernel
theorem tL_60 : (60 : Int64).toInt = 60 := by decide +kernel
theorem tL_97 : (97 : Int64).toInt = 97 := by decide +kernel
theorem tL_100 : (100 : Int64).toInt = 100 := by decide +kernel
theorem tL_122 : (122 : Int64).toInt = 122 := by decide +kernel
theorem tL_200 : (200 : Int64).toInt = 200 := by decide +kernel
theorem tL_99999 : (99999 : Int64).toInt = 99999 := by decide +kernel
theorem tL_m1 : (-1 : Int64).toInt = -1 := by decide +kernel
theorem tL_m99999 : (-99999 : Int64).toInt = -99999 := by decide +kernel
end Lit
def rgL (lo hi xl : Int64) : Bool := decide (lo.toInt ≤ xl.toInt ∧ xl.toInt ≤ hi.toInt)
theorem rgL_c {lo hi : Int64} {xv : Int32} : rgL lo hi xv.toInt64 = rg lo.toInt hi.toInt xv := by
  unfold rgL rg
  rw [Int32.toInt_toInt64]
section Small
variable {E : aE} {d h g : Nat} {S : aSt} {σ : Nat → Nat → Int32} {A B : Tn}
theorem k_in {x1 x2 x3 : Int64} : Rn E d 107 0 [some (.long x1), none, some (.long x2), none, some (.long x3), none] [] S = some (some (.int (bI (rgL x2 x3 x1))), S) := by
  rw [k_isIn]
  unfold rgL
  simp only [Int64.le_iff_toInt_le]
theorem c_isWithin {xv av bv : Int32} : Rn E d 97 0 [some (.int xv), some (.int av), some (.int bv)] [] S = some (some (.int (bI (rg av.toInt bv.toInt xv))), S) := by
  simp only [e97_0, e97_1, e97_2, e97_5, e97_6, e97_7, e97_10, e97_11, e97_14, e97_15, rz_1, rz_0, rg]
  by_cases h1 : xv < av
  · have h1i := Int32.lt_iff_toInt_lt.mp h1
    have h2 : ¬ (av.toInt ≤ xv.toInt ∧ xv.toInt ≤ bv.toInt) := by omega
    simp only [h1, h2, if_true, decide_false]
  · have h1i : ¬ xv.toInt < av.toInt := fun z => h1 (Int32.lt_iff_toInt_lt.mpr z)
    by_cases h3 : bv < xv
    · have h3i := Int32.lt_iff_toInt_lt.mp h3
      have h2 : ¬ (av.toInt ≤ xv.toInt ∧ xv.toInt ≤ bv.toInt) := by omega
      simp only [h1, h3, h2, if_true, if_false, decide_false]
    · have h3i : ¬ bv.toInt < xv.toInt := fun z => h3 (Int32.lt_iff_toInt_lt.mpr z)
      have h2 : (av.toInt ≤ xv.toInt ∧ xv.toInt ≤ bv.toInt) := by omega
      simp only [h1, h3, h2, if_false, and_self, decide_true]
theorem k_isOne {xv : Int32} (hM : MR (σ 94) A) (h8 : tN A ≤ 8) : Rn E (d + 1) 115 0 [some (.ref 93), some (.int xv)] [] (shp, σ) = some (some (.int (bI (hasB A xv))), (shp, σ)) := by
  have e0 := hM.1
  have e1 : rg 0 (nI (tN A) - nI 1).toInt xv = hasB A xv := by
    unfold rg hasB
    congr 1
    apply propext
    by_cases h0 : tN A = 0
    · rw [h0, show (nI 0 - nI 1).toInt = -1 from by decide +kernel]; omega
    · rw [pk_sub (by omega), nI_toInt (by omega)]; omega
  simp (disch := omega) only [e115_0, e115_1, e115_2, e115_3, e115_4, e115_7, e115_8, e115_9, e115_10, e115_11, e115_12, e115_15, ↓reduceIte, gM_0, a_94, inb_n, ix_n, if_true, ne_eq, Nat.reduceEqDiff, not_false_eq_true, vM, clK_s, tl_s, tl_n, clr_i, clr_n, clr_a, nI_add, e0, k_in, rgL_c, tL_0, tL_1, tL_2, tL_3, tL_4, tL_5, tL_6, tL_7, tL_8, tL_19, tL_30, tL_48, tL_50, tL_57, tL_60, tL_97, tL_100, tL_122, tL_200, tL_99999, tL_m1, tL_m99999, Int32.toInt_toInt64, e1, rz_b]
theorem k_isText {xv : Int32} (hM : MR (σ 94) A) (hX : WFx A) : Rn E (d + 1) 116 0 [some (.ref 93), some (.int xv)] [] (shp, σ) = some (some (.int (bI (rg 0 ((tX A).length - 1) xv))), (shp, σ)) := by
  have e0 := hM.2.2.2.2.1
  have h14 := hX.1
  have e1 : rg 0 (nI (tX A).length - nI 1).toInt xv = rg 0 ((tX A).length - 1) xv := by
    congr 1
    by_cases h0 : (tX A).length = 0
    · rw [h0]; decide +kernel
    · rw [pk_sub (by omega), nI_toInt (by omega)]; omega
  simp (disch := omega) only [e116_0, e116_1, e116_2, e116_3, e116_4, e116_7, e116_8, e116_9, e116_10, e116_11, e116_12, e116_15, ↓reduceIte, gM_0, a_94, inb_n, ix_n, if_true, ne_eq, Nat.reduceEqDiff, not_false_eq_true, vM, clK_s, tl_s, tl_n, clr_i, clr_n, clr_a, nI_add, e0, k_in, rgL_c, tL_0, tL_1, tL_2, tL_3, tL_4, tL_5, tL_6, tL_7, tL_8, tL_19, tL_30, tL_48, tL_50, tL_57, tL_60, tL_97, tL_100, tL_122, tL_200, tL_99999, tL_m1, tL_m99999, Int32.toInt_toInt64, e1, rz_b]
theorem k_isPlace {xv : Int32} : Rn E (d + 1) 119 0 [some (.int xv)] [] S = some (some (.int (bI (rg 0 19 xv))), S) := by
  simp only [e119_0, e119_1, e119_2, e119_3, e119_6, e119_9, k_in, rgL_c, tL_0, tL_1, tL_2, tL_3, tL_4, tL_5, tL_6, tL_7, tL_8, tL_19, tL_30, tL_48, tL_50, tL_57, tL_60, tL_97, tL_100, tL_122, tL_200, tL_99999, tL_m1, tL_m99999, clK_s, tl_s, rz_b]
theorem k_isSheet {xv : Int32} : Rn E (d + 1) 191 0 [some (.int xv)] [] S = some (some (.int (bI (rg 0 3 xv))), S) := by
  simp only [e191_0, e191_1, e191_2, e191_3, e191_6, e191_9, k_in, rgL_c, tL_0, tL_1, tL_2, tL_3, tL_4, tL_5, tL_6, tL_7, tL_8, tL_19, tL_30, tL_48, tL_50, tL_57, tL_60, tL_97, tL_100, tL_122, tL_200, tL_99999, tL_m1, tL_m99999, clK_s, tl_s, rz_b]
theorem k_isSlot {xv : Int32} : Rn E (d + 1) 199 0 [some (.int xv)] [] S = some (some (.int (bI (rg 0 4 xv))), S) := by
  simp only [e199_0, e199_1, e199_2, e199_3, e199_6, e199_9, k_in, rgL_c, tL_0, tL_1, tL_2, tL_3, tL_4, tL_5, tL_6, tL_7, tL_8, tL_19, tL_30, tL_48, tL_50, tL_57, tL_60, tL_97, tL_100, tL_122, tL_200, tL_99999, tL_m1, tL_m99999, clK_s, tl_s, rz_b]
def oN (xv : Int32) : Int32 := if xv < nI 0 then (-1000000005) else xv
theorem k_orNone {xv : Int32} : Rn E d 108 0 [some (.int xv)] [] S = some (some (.int (oN xv)), S) := by
  simp only [e108_0, e108_1, e108_4, e108_6, e108_9, e108_10, oN]
  by_cases h1 : xv < nI 0
  · have h2 : ¬ nI 0 ≤ xv := Int32.not_le.mpr h1
    simp only [h1, h2, if_true, if_false]
  · have h2 : nI 0 ≤ xv := Int32.not_lt.mp h1
    simp only [h1, h2, if_true, if_false]
theorem bI_and {p q : Bool} {xx yy : Option aRs} : (if p = false then xx else if q = false then xx else yy) = if (p && q) = false then xx else yy := by
  cases p <;> cases q <;> rfl
theorem k_isOneSo {xv yv zv : Int32} : Rn E (d + 1) 124 0 [some (.int xv), some (.int yv), some (.int zv)] [] S = some (some (.int (bI (rg 0 200 xv && rg 0 50 yv && rg (-1) 7 zv))), S) := by
  simp only [e124_0, e124_1, e124_2, e124_3, e124_6, e124_9, e124_12, e124_13, e124_14, e124_15, e124_18, e124_21, e124_24, e124_25, e124_26, e124_29, e124_32, e124_35, e124_38, e124_39, e124_42, e124_43, k_in, rgL_c, tL_0, tL_1, tL_2, tL_3, tL_4, tL_5, tL_6, tL_7, tL_8, tL_19, tL_30, tL_48, tL_50, tL_57, tL_60, tL_97, tL_100, tL_122, tL_200, tL_99999, tL_m1, tL_m99999, clK_s, tl_s, bI_0, rz_1, rz_0]
  cases rg 0 200 xv <;> cases rg 0 50 yv <;> cases rg (-1) 7 zv <;> simp [rz_1, rz_0]
theorem c_isValue2 {xv : Int32} : Rn E (d + 1) 99 0 [some (.int (nI 2)), some (.int xv)] [] S = some (some (.int (bI (rg 0 200 xv))), S) := by
  rw [e99_0, e99_1, swZ_n (by decide) (by decide)]
  show Rn E (d + 1) 99 28 _ _ _ = _
  simp only [e99_28, e99_29, e99_30, e99_33, e99_36, e99_37, e99_38, e99_39, c_isWithin, tI_0, tI_1, tI_2, tI_3, tI_4, tI_5, tI_6, tI_7, tI_8, tI_19, tI_20, tI_23, tI_24, tI_29, tI_30, tI_48, tI_50, tI_57, tI_60, tI_97, tI_100, tI_122, tI_200, tI_99999, tI_m1, tI_m99999, clK_s, tl_s, rz_b]
theorem c_isValue3 {xv : Int32} : Rn E (d + 1) 99 0 [some (.int (nI 3)), some (.int xv)] [] S = some (some (.int (bI (rg 0 50 xv))), S) := by
  rw [e99_0, e99_1, swZ_n (by decide) (by decide)]
  show Rn E (d + 1) 99 37 _ _ _ = _
  simp only [e99_37, e99_38, e99_39, e99_41, e99_44, e99_45, e99_46, e99_47, e99_49, c_isWithin, tI_0, tI_1, tI_2, tI_3, tI_4, tI_5, tI_6, tI_7, tI_8, tI_19, tI_20, tI_23, tI_24, tI_29, tI_30, tI_48, tI_50, tI_57, tI_60, tI_97, tI_100, tI_122, tI_200, tI_99999, tI_m1, tI_m99999, clK_s, tl_s, rz_b]
theorem c_isValue4 {xv : Int32} : Rn E (d + 1) 99 0 [some (.int (nI 4)), some (.int xv)] [] S = some (some (.int (bI (rg (-1) 7 xv))), S) := by
  rw [e99_0, e99_1, swZ_n (by decide) (by decide)]
  show Rn E (d + 1) 99 45 _ _ _ = _
  simp only [e99_45, e99_46, e99_47, e99_49, e99_52, e99_53, e99_54, c_isWithin, tI_0, tI_1, tI_2, tI_3, tI_4, tI_5, tI_6, tI_7, tI_8, tI_19, tI_20, tI_23, tI_24, tI_29, tI_30, tI_48, tI_50, tI_57, tI_60, tI_97, tI_100, tI_122, tI_200, tI_99999, tI_m1, tI_m99999, clK_s, tl_s, rz_b]
/-- kinds under one another -/
def unB (kz cz : Nat) : Bool := decide (kz = cz) || decide (cz = 0) || (decide (cz = 1) && decide (kz = 3)) || (decide (cz = 2) && decide (kz = 4))
theorem k_isOf {kz cz : Nat} (hk : kz < 6) (hc : cz < 6) : Rn E d 118 0 [some (.int (nI kz)), some (.int (nI cz))] [] S = some (some (.int (bI (unB kz cz))), S) := by
  simp (disch := omega) only [e118_0, e118_1, e118_2, e118_5, e118_6, e118_9, e118_10, e118_11, e118_14, e118_15, e118_16, e118_19, e118_20, e118_21, e118_24, e118_25, e118_26, e118_29, e118_30, e118_33, e118_34, nI_lt2, rz_1, rz_0, unB]
  by_cases h1 : kz = cz
  · simp [h1]
  · by_cases h2 : cz = 0
    · simp [h2]
    · by_cases h3 : cz = 1
      · have h6 : ¬ kz = 1 := by omega
        by_cases h4 : kz = 3 <;> simp [h3, h4, h6]
      · by_cases h5 : cz = 2
        · have h6 : ¬ kz = 2 := by omega
          by_cases h4 : kz = 4 <;> simp [h5, h4, h6]
        · simp [h1, h2, h3, h5]
def upK (kz : Nat) : Option Nat := if kz = 0 then none else if kz = 3 then some 1 else if kz = 4 then some 2 else some 0
def unF (cz : Nat) : Nat → Option Nat → Bool
  | _, none => false
  | 0, some kz => decide (kz = cz)
  | r + 1, some kz => if kz = cz then true else unF cz r (upK kz)
theorem un_eq : ∀ kz, kz < 6 → ∀ cz, cz < 6 → unF cz 6 (some kz) = unB kz cz := by decide +kernel
theorem abv_c : ∀ kz, kz < 6 → abv.getD kz 0 = oI (upK kz) ∧ (∀ jz, upK kz = some jz → jz < 6) := by
  intro kz hk
  match kz, hk with
  | 0, _ => exact ⟨rfl, fun jz z => by cases z⟩
  | 1, _ => exact ⟨rfl, fun jz z => by cases z; omega⟩
  | 2, _ => exact ⟨rfl, fun jz z => by cases z; omega⟩
  | 3, _ => exact ⟨rfl, fun jz z => by cases z; omega⟩
  | 4, _ => exact ⟨rfl, fun jz z => by cases z; omega⟩
  | 5, _ => exact ⟨rfl, fun jz z => by cases z; omega⟩
theorem ald_x {jv : Int32} {K : Value → Option aRs} : ald (shp, σ) 1002 jv K = if inb jv 6 = true then K (.int (abv.getD (ix jv) 0)) else none := by
  unfold ald rdI rdX
  simp only [show shp[1002]? = none from rfl, if_true]
  by_cases hc : inb jv 6 = true
  · simp only [if_pos hc]
  · simp only [if_neg hc]
theorem c_isUnder_l {k0 : Int32} {cz : Nat} (hc : cz < 6) : ∀ r iz (o : Option Nat), iz + r = 6 → (∀ jz, o = some jz → jz < 6) → Rn E d 0 4 [some (.int k0), some (.int (nI cz)), some (.int (oI o)), some (.int (nI iz))] [] (shp, σ) = some (some (.int (bI (unF cz r o))), (shp, σ)) := by
  intro r
  induction r with
  | zero =>
    intro iz o hi ho
    have h1 : 6 ≤ iz := by omega
    simp (disch := omega) only [e0_0, e0_1, e0_2, e0_3, e0_4, e0_5, e0_7, e0_10, e0_11, e0_14, e0_15, e0_16, e0_19, e0_22, e0_23, e0_24, e0_25, e0_28, e0_31, e0_32, e0_33, e0_36, e0_37, e0_40, e0_41, nI_leI, h1, if_true, oI_eq (fun jz hj => by have := ho jz hj; omega) (show cz < 2 ^ 31 by omega), rz_1, rz_0]
    cases o with
    | none => simp [unF]
    | some kz => by_cases hq : kz = cz <;> simp [unF, hq]
  | succ r ih =>
    intro iz o hi ho
    have h1 : ¬ 6 ≤ iz := by omega
    rw [e0_4]
    simp (disch := omega) only [e0_5, e0_7, e0_10, e0_11, nI_leI, h1, if_false, oI_neg (fun jz hj => by have := ho jz hj; omega)]
    cases o with
    | none =>
      have h2 : ¬ (-1) = nI cz := fun z => by
        have := (oI_eq (o := none) (fun jz hj => by cases hj) (show cz < 2 ^ 31 by omega)).mp z
        cases this
      simp only [if_true, oI, e0_31, e0_32, e0_33, e0_36, e0_37, e0_40, e0_41, h2, not_false_eq_true, rz_0, unF]
    | some kz =>
      have hk := ho kz rfl
      obtain ⟨a1, a2⟩ := abv_c kz hk
      by_cases hq : kz = cz
      · simp (disch := omega) only [reduceCtorEq, if_false, oI, e0_14, e0_15, e0_16, e0_19, e0_22, e0_23, e0_24, e0_25, e0_28, e0_31, e0_32, e0_33, e0_36, e0_37, e0_40, e0_41, nI_lt2, hq, if_true, not_true_eq_false, rz_1, unF]
      · simp (disch := omega) only [reduceCtorEq, if_false, oI, e0_14, e0_15, e0_16, e0_19, e0_22, e0_23, e0_24, e0_25, e0_28, nI_lt2, hq, ald_x, ↓reduceIte, inb_n, ix_n, if_true, ne_eq, Nat.reduceEqDiff, not_false_eq_true, clK_s, tl_s, tl_n, clr_i, clr_n, clr_a, nI_add, a1, unF]
        exact ih (iz + 1) (upK kz) (by omega) a2
theorem c_isUnder {kz cz : Nat} (hk : kz < 6) (hc : cz < 6) : Rn E d 0 0 [some (.int (nI kz)), some (.int (nI cz)), none, none] [] (shp, σ) = some (some (.int (bI (unB kz cz))), (shp, σ)) := by
  simp only [e0_0, e0_1, e0_2, e0_3, clr_i, clr_n]
  rw [← un_eq kz hk cz hc]
  exact c_isUnder_l hc 6 0 (some kz) (by omega) (fun jz z => by cases z; exact hk)
/-- sizes together -/
def szF (A : Tn) : Nat → Nat → Int32 → Int32
  | 0, _, av => av
  | r + 1, kz, av => szF A r (kz + 1) (av + tF A kz 2)
def spSz (A : Tn) : Int32 := szF A (tN A) 0 (nI 0)
theorem k_sizes_l (hM : MR (σ 94) A) (h8 : tN A ≤ 8) : ∀ r kz (av : Int32), kz + r = tN A → Rn E (d + 1) 151 4 [some (.ref 93), some (.int av), some (.int (nI kz))] [] (shp, σ) = some (some (.int (szF A r kz av)), (shp, σ)) := by
  have e0 := hM.1
  intro r
  induction r with
  | zero =>
    intro kz av hk
    have h1 : tN A ≤ kz := by omega
    simp (disch := omega) only [e151_0, e151_1, e151_2, e151_3, e151_4, e151_5, e151_6, e151_9, e151_10, e151_11, e151_14, e151_15, e151_16, e151_17, e151_18, e151_21, e151_22, e151_23, e151_26, e151_29, e151_30, ↓reduceIte, gM_0, a_94, inb_n, ix_n, if_true, ne_eq, Nat.reduceEqDiff, not_false_eq_true, vM, clK_s, tl_s, tl_n, clr_i, clr_n, clr_a, nI_add, e0, nI_leI, h1, szF]
  | succ r ih =>
    intro kz av hk
    have h1 : ¬ tN A ≤ kz := by omega
    have f2 := hM.2.1 kz (by omega) 2 (by omega)
    rw [e151_4]
    simp (disch := omega) only [e151_0, e151_1, e151_2, e151_3, e151_5, e151_6, e151_9, e151_10, e151_11, e151_14, e151_15, e151_16, e151_17, e151_18, e151_21, e151_22, e151_23, e151_26, e151_29, e151_30, ↓reduceIte, gM_0, a_94, inb_n, ix_n, if_true, ne_eq, Nat.reduceEqDiff, not_false_eq_true, vM, clK_s, tl_s, tl_n, clr_i, clr_n, clr_a, nI_add, e0, nI_leI, h1, k_of, f2, szF]
    exact ih (kz + 1) _ (by omega)
theorem k_sizes (hM : MR (σ 94) A) (h8 : tN A ≤ 8) : Rn E (d + 1) 151 0 [some (.ref 93), none, none] [] (shp, σ) = some (some (.int (spSz A)), (shp, σ)) := by
  simp only [e151_0, e151_1, e151_2, e151_3, clr_i, clr_a]
  exact k_sizes_l hM h8 (tN A) 0 (nI 0) (by omega)
theorem c_sizes_l (hT : isT h) (hC : CR σ h A) (h8 : tN A ≤ 8) : ∀ r kz (av : Int32), kz + r = tN A → Rn E d 36 4 [some (.ref h), some (.int av), some (.int (nI kz))] [] (shp, σ) = some (some (.int (szF A r kz av)), (shp, σ)) := by
  have hT2 : h = 36 ∨ h = 46 ∨ h = 56 := hT
  have e0 := hC.1
  intro r
  induction r with
  | zero =>
    intro kz av hk
    have h1 : tN A ≤ kz := by omega
    simp (disch := omega) only [e36_0, e36_1, e36_2, e36_3, e36_4, e36_5, e36_6, e36_9, e36_12, e36_13, e36_14, e36_17, e36_18, e36_19, e36_20, e36_21, e36_24, e36_27, e36_28, gT_0 hT, gT_1 hT, gT_2 hT, gT_3 hT, gT_4 hT, gT_5 hT, gT_6 hT, gT_7 hT, gT_8 hT, gT_9 hT, gT_10 hT, gT_11 hT, gT_12 hT, gT_13 hT, gT_14 hT, gT_15 hT, gT_16 hT, gT_17 hT, pT_10 hT, pT_11 hT, pT_12 hT, pT_13 hT, pT_14 hT, pT_15 hT, pT_16 hT, pT_17 hT, aT_1 hT, aT_2 hT, aT_3 hT, aT_4 hT, aT_5 hT, aT_6 hT, aT_7 hT, aT_8 hT, aT_9 hT, sT_1 hT, sT_2 hT, sT_3 hT, sT_4 hT, sT_5 hT, sT_6 hT, sT_7 hT, sT_8 hT, sT_9 hT, vT hT, ↓reduceIte, inb_n, ix_n, if_true, ne_eq, Nat.reduceEqDiff, not_false_eq_true, clK_s, tl_s, tl_n, clr_i, clr_n, clr_a, nI_add, e0, nI_leI, h1, szF]
  | succ r ih =>
    intro kz av hk
    have h1 : ¬ tN A ≤ kz := by omega
    have f2 := hC.k2 (kz := kz) (by omega)
    rw [e36_4]
    simp (disch := omega) only [e36_0, e36_1, e36_2, e36_3, e36_5, e36_6, e36_9, e36_12, e36_13, e36_14, e36_17, e36_18, e36_19, e36_20, e36_21, e36_24, e36_27, e36_28, gT_0 hT, gT_1 hT, gT_2 hT, gT_3 hT, gT_4 hT, gT_5 hT, gT_6 hT, gT_7 hT, gT_8 hT, gT_9 hT, gT_10 hT, gT_11 hT, gT_12 hT, gT_13 hT, gT_14 hT, gT_15 hT, gT_16 hT, gT_17 hT, pT_10 hT, pT_11 hT, pT_12 hT, pT_13 hT, pT_14 hT, pT_15 hT, pT_16 hT, pT_17 hT, aT_1 hT, aT_2 hT, aT_3 hT, aT_4 hT, aT_5 hT, aT_6 hT, aT_7 hT, aT_8 hT, aT_9 hT, sT_1 hT, sT_2 hT, sT_3 hT, sT_4 hT, sT_5 hT, sT_6 hT, sT_7 hT, sT_8 hT, sT_9 hT, vT hT, ↓reduceIte, inb_n, ix_n, if_true, ne_eq, Nat.reduceEqDiff, not_false_eq_true, clK_s, tl_s, tl_n, clr_i, clr_n, clr_a, nI_add, e0, nI_leI, h1, f2, szF]
    exact ih (kz + 1) _ (by omega)
theorem c_sizes (hT : isT h) (hC : CR σ h A) (h8 : tN A ≤ 8) : Rn E d 36 0 [some (.ref h), none, none] [] (shp, σ) = some (some (.int (spSz A)), (shp, σ)) := by
  simp only [e36_0, e36_1, e36_2, e36_3, clr_i, clr_a]
  exact c_sizes_l hT hC h8 (tN A) 0 (nI 0) (by omega)
theorem cpG {sh : List aSh} {a b na nb sp dp kn : Nat} {K : aSt → Option aRs} (ha : sh[a]? = some (0, na, [])) (hb : sh[b]? = some (0, nb, [])) (h1 : sp + kn ≤ na) (h2 : dp + kn ≤ nb) (h3 : na < 2 ^ 31) (h4 : nb < 2 ^ 31) : cpK (sh, σ) a (nI sp) b (nI dp) (nI kn) K = K (sh, sr σ b (va_cpy (σ a) (σ b) sp dp kn)) := by
  unfold cpK
  simp only [ha, hb]
  rw [ix_n (by omega), ix_n (by omega), ix_n (by omega), if_pos]
  exact ⟨trivial, trivial, nI_pos (by omega), nI_pos (by omega), nI_pos (by omega), h1, h2⟩
theorem shT (hT : isT h) : shp[h + 1]? = some (0, 8, []) ∧ shp[h + 2]? = some (0, 8, []) ∧ shp[h + 3]? = some (0, 8, []) ∧ shp[h + 4]? = some (0, 8, []) ∧ shp[h + 5]? = some (0, 8, []) ∧ shp[h + 7]? = some (0, 20, []) ∧ shp[h + 8]? = some (0, 3, []) ∧ shp[h + 9]? = some (0, 3, []) := by
  rcases hT with rfl | rfl | rfl <;> exact ⟨rfl, rfl, rfl, rfl, rfl, rfl, rfl, rfl⟩
theorem c_takes (hT : isT h) (hG : isT g) (hgh : g ≠ h) (hC : CR σ g A) (h8 : tN A ≤ 8) :
    ∃ σ2, Rn E (d + 1) 30 0 [some (.ref h), some (.ref g)] [] (shp, σ) = some (none, (shp, σ2)) ∧ FT h σ σ2 ∧ CR σ2 h A := by
  have hT2 : h = 36 ∨ h = 46 ∨ h = 56 := hT
  have hG2 : g = 36 ∨ g = 46 ∨ g = 56 := hG
  obtain ⟨s1, s2, s3, s4, s5, s7, s8, s9⟩ := shT hT
  obtain ⟨r1, r2, r3, r4, r5, r7, r8, r9⟩ := shT hG
  have P1 : ∀ (ρ : Nat → Nat → Int32) (K : aSt → Option aRs), cpK (shp, ρ) (g + 1) (nI 0) (h + 1) (nI 0) (nI 8) K = K (shp, sr ρ (h + 1) (va_cpy (ρ (g + 1)) (ρ (h + 1)) 0 0 8)) := fun ρ K => cpG r1 s1 (by omega) (by omega) (by omega) (by omega)
  have P2 : ∀ (ρ : Nat → Nat → Int32) (K : aSt → Option aRs), cpK (shp, ρ) (g + 2) (nI 0) (h + 2) (nI 0) (nI 8) K = K (shp, sr ρ (h + 2) (va_cpy (ρ (g + 2)) (ρ (h + 2)) 0 0 8)) := fun ρ K => cpG r2 s2 (by omega) (by omega) (by omega) (by omega)
  have P3 : ∀ (ρ : Nat → Nat → Int32) (K : aSt → Option aRs), cpK (shp, ρ) (g + 3) (nI 0) (h + 3) (nI 0) (nI 8) K = K (shp, sr ρ (h + 3) (va_cpy (ρ (g + 3)) (ρ (h + 3)) 0 0 8)) := fun ρ K => cpG r3 s3 (by omega) (by omega) (by omega) (by omega)
  have P4 : ∀ (ρ : Nat → Nat → Int32) (K : aSt → Option aRs), cpK (shp, ρ) (g + 4) (nI 0) (h + 4) (nI 0) (nI 8) K = K (shp, sr ρ (h + 4) (va_cpy (ρ (g + 4)) (ρ (h + 4)) 0 0 8)) := fun ρ K => cpG r4 s4 (by omega) (by omega) (by omega) (by omega)
  have P5 : ∀ (ρ : Nat → Nat → Int32) (K : aSt → Option aRs), cpK (shp, ρ) (g + 5) (nI 0) (h + 5) (nI 0) (nI 8) K = K (shp, sr ρ (h + 5) (va_cpy (ρ (g + 5)) (ρ (h + 5)) 0 0 8)) := fun ρ K => cpG r5 s5 (by omega) (by omega) (by omega) (by omega)
  have P7 : ∀ (ρ : Nat → Nat → Int32) (K : aSt → Option aRs), cpK (shp, ρ) (g + 7) (nI 0) (h + 7) (nI 0) (nI 20) K = K (shp, sr ρ (h + 7) (va_cpy (ρ (g + 7)) (ρ (h + 7)) 0 0 20)) := fun ρ K => cpG r7 s7 (by omega) (by omega) (by omega) (by omega)
  have P8 : ∀ (ρ : Nat → Nat → Int32) (K : aSt → Option aRs), cpK (shp, ρ) (g + 8) (nI 0) (h + 8) (nI 0) (nI 3) K = K (shp, sr ρ (h + 8) (va_cpy (ρ (g + 8)) (ρ (h + 8)) 0 0 3)) := fun ρ K => cpG r8 s8 (by omega) (by omega) (by omega) (by omega)
  have P9 : ∀ (ρ : Nat → Nat → Int32) (K : aSt → Option aRs), cpK (shp, ρ) (g + 9) (nI 0) (h + 9) (nI 0) (nI 3) K = K (shp, sr ρ (h + 9) (va_cpy (ρ (g + 9)) (ρ (h + 9)) 0 0 3)) := fun ρ K => cpG r9 s9 (by omega) (by omega) (by omega) (by omega)
  simp (disch := omega) only [e30_0, e30_1, e30_4, e30_5, e30_6, e30_9, e30_10, e30_12, e30_15, e30_16, e30_19, e30_20, e30_21, e30_24, e30_25, e30_27, e30_30, e30_31, e30_34, e30_35, e30_36, e30_39, e30_40, e30_42, e30_45, e30_46, e30_49, e30_50, e30_51, e30_54, e30_55, e30_57, e30_60, e30_61, e30_64, e30_65, e30_66, e30_69, e30_70, e30_72, e30_75, e30_76, e30_79, e30_80, e30_81, e30_84, e30_85, e30_87, e30_90, e30_91, e30_94, e30_95, e30_96, e30_99, e30_100, e30_101, e30_104, e30_105, e30_108, e30_109, e30_110, e30_113, e30_114, e30_115, e30_118, e30_119, e30_120, e30_123, e30_126, e30_127, e30_128, e30_131, e30_134, e30_135, e30_136, e30_139, e30_142, e30_143, e30_144, e30_147, e30_150, e30_151, e30_152, e30_155, e30_158, e30_159, e30_160, e30_163, e30_166, e30_167, e30_168, e30_171, e30_174, e30_175, e30_176, e30_179, e30_182, gT_0 hT, gT_1 hT, gT_2 hT, gT_3 hT, gT_4 hT, gT_5 hT, gT_6 hT, gT_7 hT, gT_8 hT, gT_9 hT, gT_10 hT, gT_11 hT, gT_12 hT, gT_13 hT, gT_14 hT, gT_15 hT, gT_16 hT, gT_17 hT, pT_10 hT, pT_11 hT, pT_12 hT, pT_13 hT, pT_14 hT, pT_15 hT, pT_16 hT, pT_17 hT, aT_1 hT, aT_2 hT, aT_3 hT, aT_4 hT, aT_5 hT, aT_6 hT, aT_7 hT, aT_8 hT, aT_9 hT, sT_1 hT, sT_2 hT, sT_3 hT, sT_4 hT, sT_5 hT, sT_6 hT, sT_7 hT, sT_8 hT, sT_9 hT, vT hT, gT_0 hG, gT_1 hG, gT_2 hG, gT_3 hG, gT_4 hG, gT_5 hG, gT_6 hG, gT_7 hG, gT_8 hG, gT_9 hG, gT_10 hG, gT_11 hG, gT_12 hG, gT_13 hG, gT_14 hG, gT_15 hG, gT_16 hG, gT_17 hG, pT_10 hG, pT_11 hG, pT_12 hG, pT_13 hG, pT_14 hG, pT_15 hG, pT_16 hG, pT_17 hG, aT_1 hG, aT_2 hG, aT_3 hG, aT_4 hG, aT_5 hG, aT_6 hG, aT_7 hG, aT_8 hG, aT_9 hG, sT_1 hG, sT_2 hG, sT_3 hG, sT_4 hG, sT_5 hG, sT_6 hG, sT_7 hG, sT_8 hG, sT_9 hG, vT hG, ↓reduceIte, inb_n, ix_n, if_true, ne_eq, Nat.reduceEqDiff, not_false_eq_true, clK_s, tl_s, tl_n, clr_i, clr_n, clr_a, nI_add, P1, P2, P3, P4, P5, P7, P8, P9, su_row, sr_ne]
  refine ⟨_, rfl, ?_, ?_⟩
  · intro a a1 a2
    simp (disch := omega) only [su_row, sr_ne]
  · obtain ⟨c1, c2, c3, c4, c5, ⟨d1, d2, d3, d4, d5, d6⟩, c7⟩ := hC
    refine ⟨?_, ?_, ?_, ?_, ?_, ⟨?_, ?_, ?_, ?_, ?_, ?_⟩, ?_⟩
    · simp (disch := omega) only [su_rf, pk_us, pk_un, su_row, sr_ne, c1]
    · intro kz hk j hj
      have := c2 kz hk j hj
      match j, hj with
      | 0, _ => show _ = _; simp (disch := omega) only [su_row, sr_ne, sr_eq, pk_cpy_in, Nat.add_zero, Nat.zero_add, Nat.sub_zero]; exact this
      | 1, _ => show _ = _; rw [show h + 1 + 1 = h + 2 from rfl]; simp (disch := omega) only [su_row, sr_ne, sr_eq, pk_cpy_in, Nat.zero_add, Nat.sub_zero]; exact this
      | 2, _ => show _ = _; rw [show h + 1 + 2 = h + 3 from rfl]; simp (disch := omega) only [su_row, sr_ne, sr_eq, pk_cpy_in, Nat.zero_add, Nat.sub_zero]; exact this
      | 3, _ => show _ = _; rw [show h + 1 + 3 = h + 4 from rfl]; simp (disch := omega) only [su_row, sr_ne, sr_eq, pk_cpy_in, Nat.zero_add, Nat.sub_zero]; exact this
      | 4, _ => show _ = _; rw [show h + 1 + 4 = h + 5 from rfl]; simp (disch := omega) only [su_row, sr_ne, sr_eq, pk_cpy_in, Nat.zero_add, Nat.sub_zero]; exact this
    · intro pz hp
      have := c3 pz hp
      simp (disch := omega) only [su_row, sr_ne, sr_eq, pk_cpy_in, Nat.zero_add, Nat.sub_zero]; exact this
    · intro i hi
      have := c4 i hi
      simp (disch := omega) only [su_row, sr_ne, sr_eq, pk_cpy_in, Nat.zero_add, Nat.sub_zero]; exact this
    · intro i hi
      have := c5 i hi
      simp (disch := omega) only [su_row, sr_ne, sr_eq, pk_cpy_in, Nat.zero_add, Nat.sub_zero]; exact this
    · simp (disch := omega) only [su_rf, pk_us, pk_un, su_row, sr_ne, d1]
    · simp (disch := omega) only [su_rf, pk_us, pk_un, su_row, sr_ne, d2]
    · simp (disch := omega) only [su_rf, pk_us, pk_un, su_row, sr_ne, d3]
    · simp (disch := omega) only [su_rf, pk_us, pk_un, su_row, sr_ne, d4]
    · simp (disch := omega) only [su_rf, pk_us, pk_un, su_row, sr_ne, d5]
    · simp (disch := omega) only [su_rf, pk_us, pk_un, su_row, sr_ne, d6]
    · simp (disch := omega) only [su_rf, pk_us, pk_un, su_row, sr_ne, c7]
theorem k_laysBy_l : ∀ r kz (σ1 : Nat → Nat → Int32), kz + r = 51 → Fr [106] σ σ1 → (∀ i, i < kz → σ1 106 i = σ 94 i) →
    ∃ σ2, Rn E d 153 2 [some (.ref 93), some (.int (nI kz))] [] (shp, σ1) = some (none, (shp, σ2)) ∧ Fr [106] σ σ2 ∧ ∀ i, i < 51 → σ2 106 i = σ 94 i := by
  intro r
  induction r with
  | zero =>
    intro kz σ1 hk hf hc
    have h1 : 51 ≤ kz := by omega
    exact ⟨σ1, by simp (disch := omega) only [e153_0, e153_1, e153_2, e153_3, e153_5, e153_8, e153_9, e153_12, e153_13, e153_14, e153_17, e153_18, e153_19, e153_20, e153_23, e153_26, nI_leI, h1, if_true], hf, fun i hi => hc i (by omega)⟩
  | succ r ih =>
    intro kz σ1 hk hf hc
    have h1 : ¬ 51 ≤ kz := by omega
    have e94 : σ1 94 = σ 94 := hf 94 (by decide)
    obtain ⟨σ2, a1, a2, a3⟩ := ih (kz + 1) (su σ1 106 kz (σ 94 kz)) (by omega) (hf.su (by decide)) (by
      intro i hi
      rw [su_rf]
      by_cases hq : i = kz
      · rw [hq, pk_us]
      · rw [pk_un hq]; exact hc i (by omega))
    refine ⟨σ2, ?_, a2, a3⟩
    rw [← a1]
    conv => lhs; rw [e153_2]
    simp (disch := omega) only [e153_0, e153_1, e153_3, e153_5, e153_8, e153_9, e153_12, e153_13, e153_14, e153_17, e153_18, e153_19, e153_20, e153_23, e153_26, ↓reduceIte, gM_0, a_94, inb_n, ix_n, if_true, ne_eq, Nat.reduceEqDiff, not_false_eq_true, vM, clK_s, tl_s, tl_n, clr_i, clr_n, clr_a, nI_add, nI_leI, h1, gM_13, s_106, e94]
theorem k_laysBy : ∃ σ2, Rn E d 153 0 [some (.ref 93), none] [] (shp, σ) = some (none, (shp, σ2)) ∧ Fr [106] σ σ2 ∧ ∀ i, i < 51 → σ2 106 i = σ 94 i := by
  simp only [e153_0, e153_1, clr_a]
  exact k_laysBy_l 51 0 σ (by omega) Fr.rf (fun i hi => by omega)
theorem k_laysBack_l : ∀ r kz (σ1 : Nat → Nat → Int32), kz + r = 51 → Fr [94] σ σ1 → (∀ i, i < kz → σ1 94 i = σ 106 i) → (∀ i, 51 ≤ i → σ1 94 i = σ 94 i) →
    ∃ σ2, Rn E d 154 2 [some (.ref 93), some (.int (nI kz))] [] (shp, σ1) = some (none, (shp, σ2)) ∧ Fr [94] σ σ2 ∧ (∀ i, i < 51 → σ2 94 i = σ 106 i) ∧ (∀ i, 51 ≤ i → σ2 94 i = σ 94 i) := by
  intro r
  induction r with
  | zero =>
    intro kz σ1 hk hf hc hd
    have h1 : 51 ≤ kz := by omega
    exact ⟨σ1, by simp (disch := omega) only [e154_0, e154_1, e154_2, e154_3, e154_5, e154_8, e154_9, e154_12, e154_13, e154_14, e154_17, e154_18, e154_19, e154_20, e154_23, e154_26, nI_leI, h1, if_true], hf, fun i hi => hc i (by omega), hd⟩
  | succ r ih =>
    intro kz σ1 hk hf hc hd
    have h1 : ¬ 51 ≤ kz := by omega
    have e94 : σ1 106 = σ 106 := hf 106 (by decide)
    obtain ⟨σ2, a1, a2, a3⟩ := ih (kz + 1) (su σ1 94 kz (σ 106 kz)) (by omega) (hf.su (by decide)) (by
      intro i hi
      rw [su_rf]
      by_cases hq : i = kz
      · rw [hq, pk_us]
      · rw [pk_un hq]; exact hc i (by omega)) (by
      intro i hi
      rw [su_rf, pk_un (by omega)]; exact hd i hi)
    refine ⟨σ2, ?_, a2, a3⟩
    rw [← a1]
    conv => lhs; rw [e154_2]
    simp (disch := omega) only [e154_0, e154_1, e154_3, e154_5, e154_8, e154_9, e154_12, e154_13, e154_14, e154_17, e154_18, e154_19, e154_20, e154_23, e154_26, ↓reduceIte, gM_0, a_94, inb_n, ix_n, if_true, ne_eq, Nat.reduceEqDiff, not_false_eq_true, vM, clK_s, tl_s, tl_n, clr_i, clr_n, clr_a, nI_add, nI_leI, h1, gM_13, a_106, s_94, e94]
/-- back to what was laid by -/
theorem k_laysBack (hM : MR (σ 94) B) (hX : tX B = tX A) (h8 : tN A ≤ 8) (hm : ∀ s, (∀ i, i < 51 → s i = σ 106 i) → (∀ t tx, (tX A)[t]? = some tx → MTx s t tx) → MR s A) : ∃ σ2, Rn E d 154 0 [some (.ref 93), none] [] (shp, σ) = some (none, (shp, σ2)) ∧ Fr [94] σ σ2 ∧ MR (σ2 94) A := by
  simp only [e154_0, e154_1, clr_a]
  obtain ⟨σ2, a1, a2, a3, a4⟩ := k_laysBack_l (E := E) (d := d) 51 0 σ (by omega) Fr.rf (fun i hi => by omega) (fun i hi => rfl)
  refine ⟨σ2, a1, a2, hm _ a3 ?_⟩
  intro t tx ht
  rw [← hX] at ht
  obtain ⟨b1, b2, b3, b4⟩ := hM.2.2.2.2.2 t tx ht
  refine ⟨by rw [a4 _ (by omega)]; exact b1, by rw [a4 _ (by omega)]; exact b2, by rw [a4 _ (by omega)]; exact b3, fun i w xv hg => ?_⟩
  rw [a4 _ (by omega), a4 _ (by omega)]
  exact b4 i w xv hg
theorem MR_51 {s0 : Nat → Int32} {c : Nat → Int32} (hM : MR s0 A) (h8 : tN A ≤ 8) (hc : ∀ i, i < 51 → c i = s0 i) : ∀ s, (∀ i, i < 51 → s i = c i) → (∀ t tx, (tX A)[t]? = some tx → MTx s t tx) → MR s A := by
  intro s h1 h2
  have h : ∀ i, i < 51 → s i = s0 i := fun i hi => (h1 i hi).trans (hc i hi)
  obtain ⟨a1, a2, a3, a4, a5, a6⟩ := hM
  refine ⟨by rw [h 0 (by omega)]; exact a1, fun kz hk j hj => by rw [h _ (by omega)]; exact a2 kz hk j hj, fun i hi hj => by rw [h _ (by omega)]; exact a3 i hi hj, by rw [h 50 (by omega)]; exact a4, by rw [h 1 (by omega)]; exact a5, h2⟩
end Small
