/-! THE CLASS: a town in its cells -/
/-- the town's row at h holds A -/
def CR (σ : Nat → Nat → Int32) (h : Nat) (A : Tn) : Prop := σ h 10 = nI (tN A) ∧ (∀ kz, kz < tN A → ∀ j, j < 5 → σ (h + 1 + j) kz = tF A kz j) ∧ (∀ pz, pz < 20 → σ (h + 7) pz = oI (spW A (nI pz))) ∧ (∀ i, i < 3 → σ (h + 8) i = tC A (6 + i)) ∧ (∀ key, key < 3 → σ (h + 9) key = oI (lastK (tX A) key)) ∧
  (σ h 11 = tC A 50 ∧ σ h 12 = tC A 3 ∧ σ h 13 = tC A 4 ∧ σ h 14 = tC A 5 ∧ σ h 15 = tC A 2 ∧ σ h 16 = tC A 9) ∧ σ h 17 = nI (tX A).length
/-- nothing changes but the town at h and the pile -/
def FT (h : Nat) (σ σ' : Nat → Nat → Int32) : Prop := ∀ a, a ≠ 3 → a < h ∨ h + 10 ≤ a → σ' a = σ a
theorem FT.rf {h : Nat} {σ : Nat → Nat → Int32} : FT h σ σ := fun _ _ _ => rfl
theorem FT.tr {h : Nat} {σ σ1 σ2 : Nat → Nat → Int32} (h1 : FT h σ σ1) (h2 : FT h σ1 σ2) : FT h σ σ2 := fun a x1 x2 => (h2 a x1 x2).trans (h1 a x1 x2)
theorem FT.pu {h a i : Nat} {σ σ1 : Nat → Nat → Int32} {xv : Int32} (h1 : FT h σ σ1) (h2 : h ≤ a) (h3 : a < h + 10) : FT h σ (su σ1 a i xv) := fun b x1 x2 => (su_row (by omega)).trans (h1 b x1 x2)
theorem FT.s3 {h i : Nat} {σ σ1 : Nat → Nat → Int32} {xv : Int32} (h1 : FT h σ σ1) : FT h σ (su σ1 3 i xv) := fun b x1 x2 => (su_row x1).trans (h1 b x1 x2)
theorem FT.of3 {h : Nat} {σ σ1 : Nat → Nat → Int32} (h1 : Fr [3] σ σ1) : FT h σ σ1 := fun a x1 _ => h1 a (by simpa using x1)
theorem FT.row {h a : Nat} {σ σ1 : Nat → Nat → Int32} {f : Nat → Int32} (h1 : FT h σ σ1) (h2 : h ≤ a) (h3 : a < h + 10) : FT h σ (sr σ1 a f) := fun b x1 x2 => (sr_ne (by omega)).trans (h1 b x1 x2)
/-- texts as the class keeps them -/
def nmX (key : Nat) (lv : Int32) : Int32 := if key = 0 then (if lv = nI 115 then (-1) else if lv = nI 110 then (-2) else (-3)) else if key = 1 then (if lv = nI 103 then (-1) else (-2)) else (if lv = nI 115 then (-1) else (-2))
def kodP (key : Nat) (pp : Nat × Int32) : Int32 := if pp.1 = 0 then pp.2 else if pp.1 = 1 then nmX key pp.2 else -pp.2
def TRx (σ : Nat → Nat → Int32) (tz : Nat) (tx : Tx) : Prop := σ (4 + 2 * tz) 1 = nI tx.2.2.length ∧ σ (4 + 2 * tz) 2 = nI tx.1 ∧ σ (4 + 2 * tz) 3 = nI tx.2.1 ∧ ∀ i w xv, tx.2.2[i]? = some (w, xv) → σ (4 + 2 * tz + 1) i = kodP tx.1 (w, xv)
def TR (σ : Nat → Nat → Int32) (l : List Tx) : Prop := ∀ tz tx, l[tz]? = some tx → TRx σ tz tx
theorem TR.ft {h : Nat} {σ σ1 : Nat → Nat → Int32} {l : List Tx} (hT : TR σ l) (hl : l.length ≤ 14) (hh : 34 ≤ h) (hf : FT h σ σ1) : TR σ1 l := by
  intro tz tx hg
  have hlt : tz < l.length := by
    rcases Nat.lt_or_ge tz l.length with hq | hq
    · exact hq
    · rw [List.getElem?_eq_none hq] at hg; cases hg
  have e1 := hf (4 + 2 * tz) (by omega) (by omega)
  have e2 := hf (4 + 2 * tz + 1) (by omega) (by omega)
  have := hT tz tx hg
  unfold TRx at this ⊢
  rw [e1, e2]
  exact this
theorem CR.ext {σ σ1 : Nat → Nat → Int32} {h : Nat} {A : Tn} (hC : CR σ h A) (h1 : ∀ a, h ≤ a → a < h + 10 → a ≠ h + 6 → σ1 a = σ a) : CR σ1 h A := by
  obtain ⟨c1, c2, c3, c4, c5, c6, c7⟩ := hC
  refine ⟨?_, ?_, ?_, ?_, ?_, ?_, ?_⟩
  · rw [h1 h (by omega) (by omega) (by omega)]; exact c1
  · intro kz hk j hj
    rw [h1 (h + 1 + j) (by omega) (by omega) (by omega)]; exact c2 kz hk j hj
  · rw [h1 (h + 7) (by omega) (by omega) (by omega)]; exact c3
  · rw [h1 (h + 8) (by omega) (by omega) (by omega)]; exact c4
  · rw [h1 (h + 9) (by omega) (by omega) (by omega)]; exact c5
  · rw [h1 h (by omega) (by omega) (by omega)]; exact c6
  · rw [h1 h (by omega) (by omega) (by omega)]; exact c7
theorem CR.tn {σ : Nat → Nat → Int32} {h : Nat} {A B : Tn} (hC : CR σ h A) (h1 : tN A = tN B) (h2 : ∀ a, a < tN A → ∀ j, j < 5 → tF A a j = tF B a j) (h3 : ∀ i, 2 ≤ i → i < 10 → tC A i = tC B i) (h4 : tC A 50 = tC B 50) (h5 : tX A = tX B) : CR σ h B := by
  obtain ⟨c1, c2, c3, c4, c5, ⟨d1, d2, d3, d4, d5, d6⟩, c7⟩ := hC
  have hw : ∀ pv r kz, kz + r ≤ tN A → whF (tF A) pv r kz = whF (tF B) pv r kz := by
    intro pv r
    induction r with
    | zero => intro kz _; rfl
    | succ r ih => intro kz hk; simp only [whF]; rw [h2 kz (by omega) 1 (by omega), ih (kz + 1) (by omega)]
  refine ⟨by rw [← h1]; exact c1, ?_, ?_, ?_, by rw [← h5]; exact c5, ⟨by rw [← h4]; exact d1, by rw [← h3 3 (by omega) (by omega)]; exact d2, by rw [← h3 4 (by omega) (by omega)]; exact d3, by rw [← h3 5 (by omega) (by omega)]; exact d4, by rw [← h3 2 (by omega) (by omega)]; exact d5, by rw [← h3 9 (by omega) (by omega)]; exact d6⟩, by rw [← h5]; exact c7⟩
  · intro kz hk j hj
    rw [← h1] at hk
    rw [← h2 kz hk j hj]; exact c2 kz hk j hj
  · intro pz hp
    rw [c3 pz hp]
    show oI (whF (tF A) (nI pz) (tN A) 0) = oI (whF (tF B) (nI pz) (tN B) 0)
    rw [← h1, hw (nI pz) (tN A) 0 (by omega)]
  · intro i hi
    rw [← h3 (6 + i) (by omega) (by omega)]; exact c4 i hi
theorem whF_f {f g : Nat → Nat → Int32} {pv : Int32} (hfg : ∀ a, f a 1 = g a 1) : ∀ r kz, whF f pv r kz = whF g pv r kz := by
  intro r
  induction r with
  | zero => intro kz; rfl
  | succ r ih => intro kz; simp only [whF, hfg, ih]
theorem spW_f {A : Tn} {kz j : Nat} {xv pv : Int32} (hj : j ≠ 1) : spW (tnF A kz j xv) pv = spW A pv := whF_f (fun a => if_neg (fun z => hj z.2.symm)) _ _
theorem CR_f {σ : Nat → Nat → Int32} {h : Nat} {A : Tn} {kz j : Nat} {xv : Int32} (hC : CR σ h A) (hk : kz < tN A) (hj : j < 5) (hj1 : j ≠ 1) : CR (su σ (h + 1 + j) kz xv) h (tnF A kz j xv) := by
  obtain ⟨c1, c2, c3, c4, c5, c6, c7⟩ := hC
  refine ⟨?_, ?_, ?_, ?_, ?_, ?_, ?_⟩
  · rw [su_row (by omega)]; exact c1
  · intro a ha b hb
    rw [su_at]
    show _ = if a = kz ∧ b = j then xv else tF A a b
    by_cases hq : a = kz ∧ b = j
    · rw [if_pos (by omega), if_pos hq]
    · rw [if_neg (by omega), if_neg hq]; exact c2 a ha b hb
  · intro pz hp
    rw [su_row (by omega), spW_f hj1]; exact c3 pz hp
  · rw [su_row (by omega)]; exact c4
  · rw [su_row (by omega)]; exact c5
  · rw [su_row (by omega)]; exact c6
  · rw [su_row (by omega)]; exact c7
/-- which field holds which of the town's numbers -/
def fNo (i : Nat) : Nat := if i = 50 then 11 else if i = 3 then 12 else if i = 4 then 13 else if i = 5 then 14 else if i = 2 then 15 else 16
theorem CR_c {σ : Nat → Nat → Int32} {h : Nat} {A : Tn} {i : Nat} {xv : Int32} (hC : CR σ h A) (hi : i = 50 ∨ i = 2 ∨ i = 3 ∨ i = 4 ∨ i = 5 ∨ i = 9) : CR (su σ h (fNo i) xv) h (tnC A i xv) := by
  obtain ⟨c1, c2, c3, c4, c5, ⟨d1, d2, d3, d4, d5, d6⟩, c7⟩ := hC
  have h10 : ∀ g, g < 11 ∨ g = 17 → su σ h (fNo i) xv h g = σ h g := fun g hg => by
    rw [su_rf, pk_un]
    rcases hi with rfl | rfl | rfl | rfl | rfl | rfl <;> simp only [fNo, Nat.reduceEqDiff, if_true, if_false] <;> omega
  have hr : ∀ a, a ≠ h → su σ h (fNo i) xv a = σ a := fun a ha => su_row ha
  have hg : ∀ k, (k = 50 ∨ k = 2 ∨ k = 3 ∨ k = 4 ∨ k = 5 ∨ k = 9) → σ h (fNo k) = tC A k → su σ h (fNo i) xv h (fNo k) = (if k = i then xv else tC A k) := by
    intro k hk hv
    by_cases hq : k = i
    · rw [if_pos hq, hq, su_rf, pk_us]
    · rw [if_neg hq, su_rf, pk_un, hv]
      rcases hi with rfl | rfl | rfl | rfl | rfl | rfl <;> rcases hk with rfl | rfl | rfl | rfl | rfl | rfl <;> first | omega | decide
  refine ⟨(h10 10 (by omega)).trans c1, ?_, ?_, ?_, ?_, ⟨hg 50 (by omega) d1, hg 3 (by omega) d2, hg 4 (by omega) d3, hg 5 (by omega) d4, hg 2 (by omega) d5, hg 9 (by omega) d6⟩, (h10 17 (by omega)).trans c7⟩
  · intro kz hk j hj
    rw [hr _ (by omega)]; exact c2 kz hk j hj
  · intro pz hp
    rw [hr _ (by omega)]; exact c3 pz hp
  · intro k hk
    rw [hr _ (by omega)]
    show _ = if 6 + k = i then xv else tC A (6 + k)
    rw [if_neg (by omega)]
    exact c4 k hk
  · rw [hr _ (by omega)]; exact c5
section Cls
variable {E : aE} {d h : Nat} {S : aSt} {σ : Nat → Nat → Int32} {A : Tn}
theorem CR.k0 (hC : CR σ h A) {kz : Nat} (hk : kz < tN A) : σ (h + 1) kz = tF A kz 0 := hC.2.1 kz hk 0 (by omega)
theorem CR.k1 (hC : CR σ h A) {kz : Nat} (hk : kz < tN A) : σ (h + 2) kz = tF A kz 1 := hC.2.1 kz hk 1 (by omega)
theorem CR.k2 (hC : CR σ h A) {kz : Nat} (hk : kz < tN A) : σ (h + 3) kz = tF A kz 2 := hC.2.1 kz hk 2 (by omega)
theorem CR.k3 (hC : CR σ h A) {kz : Nat} (hk : kz < tN A) : σ (h + 4) kz = tF A kz 3 := hC.2.1 kz hk 3 (by omega)
theorem CR.k4 (hC : CR σ h A) {kz : Nat} (hk : kz < tN A) : σ (h + 5) kz = tF A kz 4 := hC.2.1 kz hk 4 (by omega)
theorem CR.wh (hC : CR σ h A) {pz : Nat} (hp : pz < 20) : σ (h + 7) pz = oI (spW A (nI pz)) := hC.2.2.1 pz hp
theorem CR.co (hC : CR σ h A) {key : Nat} (hk : key < 3) : σ (h + 9) key = oI (lastK (tX A) key) := hC.2.2.2.2.1 key hk
theorem CR.sc (hC : CR σ h A) : σ h 11 = tC A 50 := hC.2.2.2.2.2.1.1
theorem CR.gl (hC : CR σ h A) : σ h 12 = tC A 3 := hC.2.2.2.2.2.1.2.1
theorem CR.va (hC : CR σ h A) : σ h 13 = tC A 4 := hC.2.2.2.2.2.1.2.2.1
theorem CR.bu (hC : CR σ h A) : σ h 14 = tC A 5 := hC.2.2.2.2.2.1.2.2.2.1
theorem CR.dy (hC : CR σ h A) : σ h 15 = tC A 2 := hC.2.2.2.2.2.1.2.2.2.2.1
theorem CR.z (hC : CR σ h A) : σ h 16 = tC A 9 := hC.2.2.2.2.2.1.2.2.2.2.2
theorem CR.tx (hC : CR σ h A) : σ h 17 = nI (tX A).length := hC.2.2.2.2.2.2
theorem CR.r0 (hC : CR σ h A) : σ (h + 8) 0 = tC A 6 := hC.2.2.2.1 0 (by omega)
theorem CR.r1 (hC : CR σ h A) : σ (h + 8) 1 = tC A 7 := hC.2.2.2.1 1 (by omega)
theorem CR.r2 (hC : CR σ h A) : σ (h + 8) 2 = tC A 8 := hC.2.2.2.1 2 (by omega)
/-- is there somebody of that number -/
def hasB (A : Tn) (xv : Int32) : Bool := decide (0 ≤ xv.toInt ∧ xv.toInt < tN A)
theorem hasB_ex {xv : Int32} (hb : hasB A xv = true) : ∃ kz, kz < tN A ∧ xv = nI kz := by
  have h1 := of_decide_eq_true hb
  refine ⟨xv.toInt.toNat, by omega, ?_⟩
  apply Int32.toInt_inj.mp
  have h2 : xv.toInt < 2 ^ 31 := Int32.toInt_lt xv
  rw [nI_toInt (by omega)]
  omega
theorem hasB_n {kz : Nat} (hk : kz < 2 ^ 31) : hasB A (nI kz) = decide (kz < tN A) := by
  unfold hasB
  rw [nI_toInt hk]
  congr 1
  apply propext
  omega
theorem c_has {xv : Int32} (hT : isT h) (hC : CR σ h A) (h8 : tN A ≤ 8) : Rn E d 31 0 [some (.ref h), some (.int xv)] [] (shp, σ) = some (some (.int (bI (hasB A xv))), (shp, σ)) := by
  have e0 := hC.1
  have i1 : (xv < nI 0) ↔ xv.toInt < 0 := by rw [Int32.lt_iff_toInt_lt, nI_toInt (by omega)]; omega
  have i2 : (nI (tN A) ≤ xv) ↔ (tN A : Int) ≤ xv.toInt := by rw [Int32.le_iff_toInt_le, nI_toInt (by omega)]
  simp (disch := omega) only [e31_0, e31_1, e31_4, e31_5, e31_6, e31_9, e31_12, e31_13, e31_16, e31_17, gT_10 hT, e0, i1, i2, rz_1, rz_0, hasB]
  by_cases g1 : xv.toInt < 0
  · have g2 : ¬ (0 ≤ xv.toInt ∧ xv.toInt < tN A) := by omega
    simp only [g1, g2, if_true, decide_false]
  · by_cases g3 : (tN A : Int) ≤ xv.toInt
    · have g2 : ¬ (0 ≤ xv.toInt ∧ xv.toInt < tN A) := by omega
      simp only [g1, g3, g2, if_true, if_false, decide_false]
    · have g2 : (0 ≤ xv.toInt ∧ xv.toInt < tN A) := by omega
      simp only [g1, g3, g2, if_false, and_self, decide_true]
theorem sc_0 : ∀ {cv pv : Int32}, ((cv >>> (pv &&& 31)) &&& nI 1 = nI 0) ↔ scB cv pv = false := by
  intro cv pv
  have h1 : ∀ xv : Int32, xv &&& nI 1 = nI 0 ∨ xv &&& nI 1 = nI 1 := by
    intro xv
    rw [pk_and xv 1 (by decide)]
    rcases Nat.mod_two_eq_zero_or_one xv.toBitVec.toNat with hq | hq
    · rw [show (2 : Nat) ^ 1 = 2 from rfl, hq]; exact Or.inl rfl
    · rw [show (2 : Nat) ^ 1 = 2 from rfl, hq]; exact Or.inr rfl
  unfold scB
  rcases h1 (cv >>> (pv &&& 31)) with hq | hq
  · rw [hq]
    exact iff_of_true rfl (decide_eq_false (by decide +kernel))
  · rw [hq]
    exact iff_of_false (by decide +kernel) (by rw [decide_eq_true rfl]; decide)
theorem c_isFree {pz : Nat} (hT : isT h) (hC : CR σ h A) (h8 : tN A ≤ 8) (hp : pz < 20) : Rn E d 32 0 [some (.ref h), some (.int (nI pz))] [] (shp, σ) = some (some (.int (bI (spFr A (nI pz)))), (shp, σ)) := by
  have hT2 : h = 36 ∨ h = 46 ∨ h = 56 := hT
  have e1 := hC.wh hp
  have e2 := hC.sc
  simp (disch := omega) only [e32_0, e32_1, e32_4, e32_5, e32_6, e32_9, e32_10, e32_13, e32_14, e32_15, e32_16, e32_17, e32_20, e32_21, e32_24, e32_25, gT_0 hT, gT_1 hT, gT_2 hT, gT_3 hT, gT_4 hT, gT_5 hT, gT_6 hT, gT_7 hT, gT_8 hT, gT_9 hT, gT_10 hT, gT_11 hT, gT_12 hT, gT_13 hT, gT_14 hT, gT_15 hT, gT_16 hT, gT_17 hT, pT_10 hT, pT_11 hT, pT_12 hT, pT_13 hT, pT_14 hT, pT_15 hT, pT_16 hT, pT_17 hT, aT_1 hT, aT_2 hT, aT_3 hT, aT_4 hT, aT_5 hT, aT_6 hT, aT_7 hT, aT_8 hT, aT_9 hT, sT_1 hT, sT_2 hT, sT_3 hT, sT_4 hT, sT_5 hT, sT_6 hT, sT_7 hT, sT_8 hT, sT_9 hT, vT hT, ↓reduceIte, inb_n, ix_n, if_true, ne_eq, Nat.reduceEqDiff, not_false_eq_true, clK_s, tl_s, tl_n, clr_i, clr_n, clr_a, nI_add, e1, e2, oI_pos (spW_31 h8), sc_0, rz_1, rz_0, spFr]
  cases h1 : spW A (nI pz) with
  | some kz => simp
  | none => cases h2 : scB (tC A 50) (nI pz) <;> simp
theorem c_draw (hT : isT h) {zv : Int32} (hz : σ h 16 = zv) : Rn E d 37 0 [some (.ref h)] [] (shp, σ) = some (some (.int (zD (zN zv))), (shp, su σ h 16 (zN zv))) := by
  simp (disch := omega) only [e37_0, e37_1, e37_2, e37_5, e37_7, e37_8, e37_11, e37_12, e37_15, e37_16, e37_19, e37_21, e37_22, gT_0 hT, gT_1 hT, gT_2 hT, gT_3 hT, gT_4 hT, gT_5 hT, gT_6 hT, gT_7 hT, gT_8 hT, gT_9 hT, gT_10 hT, gT_11 hT, gT_12 hT, gT_13 hT, gT_14 hT, gT_15 hT, gT_16 hT, gT_17 hT, pT_10 hT, pT_11 hT, pT_12 hT, pT_13 hT, pT_14 hT, pT_15 hT, pT_16 hT, pT_17 hT, aT_1 hT, aT_2 hT, aT_3 hT, aT_4 hT, aT_5 hT, aT_6 hT, aT_7 hT, aT_8 hT, aT_9 hT, sT_1 hT, sT_2 hT, sT_3 hT, sT_4 hT, sT_5 hT, sT_6 hT, sT_7 hT, sT_8 hT, sT_9 hT, vT hT, ↓reduceIte, inb_n, ix_n, if_true, ne_eq, Nat.reduceEqDiff, not_false_eq_true, clK_s, tl_s, tl_n, clr_i, clr_n, clr_a, nI_add, hz, su_rf, pk_us, zN, zD]
theorem c_growth {cz gz : Nat} (hc : cz < 6) (hg : gz < 2 ^ 31) : Rn E d 1 0 [some (.int (nI cz)), some (.int (nI gz)), none] [] S = some (some (.int (grK (nI cz) (nI gz))), S) := by
  have L : ∀ az bz : Nat, az < 200 → bz < 200 → (nI az = nI bz ↔ az = bz) := fun az bz h1 h2 => nI_eq (by omega) (by omega)
  have key : ∀ xv : Int32, xv = (if nI gz ≤ nI 0 then (-2) else nI gz) → Rn E d 1 10 [some (.int (nI cz)), some (.int (nI gz)), none] [.int xv] S = some (some (.int (grK (nI cz) (nI gz))), S) := by
    intro xv hx
    simp only [e1_10, e1_11, clr_i]
    rw [e1_12, swZ_n (by omega) (by decide)]
    unfold grK
    rw [← hx]
    match cz, hc with
    | 0, _ => show Rn E d 1 64 _ _ _ = _; simp (disch := omega) only [e1_48, e1_49, e1_50, e1_51, e1_52, e1_53, e1_54, e1_55, e1_56, e1_57, e1_58, e1_59, e1_60, e1_61, e1_62, e1_63, e1_64, e1_65, L, Nat.reduceEqDiff, if_false, if_true]
    | 1, _ => show Rn E d 1 48 _ _ _ = _; simp (disch := omega) only [e1_48, e1_49, e1_50, e1_51, e1_52, e1_53, e1_54, e1_55, e1_56, e1_57, e1_58, e1_59, e1_60, e1_61, e1_62, e1_63, e1_64, e1_65, L, Nat.reduceEqDiff, if_false, if_true]
    | 2, _ => show Rn E d 1 52 _ _ _ = _; simp (disch := omega) only [e1_48, e1_49, e1_50, e1_51, e1_52, e1_53, e1_54, e1_55, e1_56, e1_57, e1_58, e1_59, e1_60, e1_61, e1_62, e1_63, e1_64, e1_65, L, Nat.reduceEqDiff, if_false, if_true, dv_n]
    | 3, _ => show Rn E d 1 48 _ _ _ = _; simp (disch := omega) only [e1_48, e1_49, e1_50, e1_51, e1_52, e1_53, e1_54, e1_55, e1_56, e1_57, e1_58, e1_59, e1_60, e1_61, e1_62, e1_63, e1_64, e1_65, L, Nat.reduceEqDiff, if_false, if_true]
    | 4, _ => show Rn E d 1 56 _ _ _ = _; simp (disch := omega) only [e1_48, e1_49, e1_50, e1_51, e1_52, e1_53, e1_54, e1_55, e1_56, e1_57, e1_58, e1_59, e1_60, e1_61, e1_62, e1_63, e1_64, e1_65, L, Nat.reduceEqDiff, if_false, if_true, dv_n]
    | 5, _ => show Rn E d 1 62 _ _ _ = _; simp (disch := omega) only [e1_48, e1_49, e1_50, e1_51, e1_52, e1_53, e1_54, e1_55, e1_56, e1_57, e1_58, e1_59, e1_60, e1_61, e1_62, e1_63, e1_64, e1_65, L, Nat.reduceEqDiff, if_false, if_true]
  simp only [e1_0, e1_1]
  by_cases g0 : gz = 0
  · subst g0
    simp only [not_true_eq_false, if_false, e1_4, e1_6, e1_9]
    exact key _ (by rw [if_pos (by decide +kernel)])
  · have g1 : ¬ nI gz = nI 0 := fun z => g0 ((nI_eq hg (by omega)).mp z)
    simp only [g1, not_false_eq_true, if_true, e1_4, e1_6, e1_9]
    exact key _ (by rw [if_neg]; rw [nI_leI hg (by omega)]; omega)
theorem c_pull {cz : Nat} {xv : Int32} (hc : cz < 6) : Rn E d 2 0 [some (.int (nI cz)), some (.int xv)] [] S = some (some (.int (plK (nI cz) xv)), S) := by
  have L : ∀ az bz : Nat, az < 200 → bz < 200 → (nI az = nI bz ↔ az = bz) := fun az bz h1 h2 => nI_eq (by omega) (by omega)
  rw [e2_0, e2_1, swZ_n (by omega) (by decide)]
  unfold plK
  match cz, hc with
  | 0, _ => show Rn E d 2 48 _ _ _ = _; simp (disch := omega) only [e2_32, e2_33, e2_35, e2_36, e2_37, e2_38, e2_39, e2_41, e2_42, e2_43, e2_44, e2_45, e2_46, e2_47, e2_48, e2_49, L, Nat.reduceEqDiff, if_false, if_true]
  | 1, _ => show Rn E d 2 32 _ _ _ = _; simp (disch := omega) only [e2_32, e2_33, e2_35, e2_36, e2_37, e2_38, e2_39, e2_41, e2_42, e2_43, e2_44, e2_45, e2_46, e2_47, e2_48, e2_49, L, Nat.reduceEqDiff, if_false, if_true]
  | 2, _ => show Rn E d 2 44 _ _ _ = _; simp (disch := omega) only [e2_32, e2_33, e2_35, e2_36, e2_37, e2_38, e2_39, e2_41, e2_42, e2_43, e2_44, e2_45, e2_46, e2_47, e2_48, e2_49, L, Nat.reduceEqDiff, if_false, if_true, dv_n]
  | 3, _ => show Rn E d 2 37 _ _ _ = _; simp (disch := omega) only [e2_32, e2_33, e2_35, e2_36, e2_37, e2_38, e2_39, e2_41, e2_42, e2_43, e2_44, e2_45, e2_46, e2_47, e2_48, e2_49, L, Nat.reduceEqDiff, if_false, if_true]
  | 4, _ => show Rn E d 2 44 _ _ _ = _; simp (disch := omega) only [e2_32, e2_33, e2_35, e2_36, e2_37, e2_38, e2_39, e2_41, e2_42, e2_43, e2_44, e2_45, e2_46, e2_47, e2_48, e2_49, L, Nat.reduceEqDiff, if_false, if_true, dv_n]
  | 5, _ => show Rn E d 2 48 _ _ _ = _; simp (disch := omega) only [e2_32, e2_33, e2_35, e2_36, e2_37, e2_38, e2_39, e2_41, e2_42, e2_43, e2_44, e2_45, e2_46, e2_47, e2_48, e2_49, L, Nat.reduceEqDiff, if_false, if_true]
theorem sub_194 (xv : Int32) : nI 200 - xv - nI 6 = nI 194 - xv := by
  rw [Int32.sub_eq_add_neg, Int32.sub_eq_add_neg, Int32.add_assoc, Int32.add_comm (-xv), ← Int32.add_assoc, show nI 200 + -nI 6 = nI 194 from by decide +kernel, ← Int32.sub_eq_add_neg]
theorem c_worth {cz : Nat} {xv : Int32} (hc : cz < 6) : Rn E d 3 0 [some (.int (nI cz)), some (.int xv)] [] S = some (some (.int (woK (nI cz) xv)), S) := by
  have L : ∀ az bz : Nat, az < 200 → bz < 200 → (nI az = nI bz ↔ az = bz) := fun az bz h1 h2 => nI_eq (by omega) (by omega)
  rw [e3_0, e3_1, swZ_n (by omega) (by decide)]
  unfold woK
  match cz, hc with
  | 0, _ => show Rn E d 3 63 _ _ _ = _; simp (disch := omega) only [e3_36, e3_37, e3_38, e3_39, e3_40, e3_41, e3_42, e3_43, e3_44, e3_45, e3_46, e3_49, e3_50, e3_51, e3_52, e3_55, e3_56, e3_57, e3_59, e3_60, e3_61, e3_62, e3_63, e3_64, L, Nat.reduceEqDiff, if_false, if_true]
  | 1, _ => show Rn E d 3 36 _ _ _ = _; simp (disch := omega) only [e3_36, e3_37, e3_38, e3_39, e3_40, e3_41, e3_42, e3_43, e3_44, e3_45, e3_46, e3_49, e3_50, e3_51, e3_52, e3_55, e3_56, e3_57, e3_59, e3_60, e3_61, e3_62, e3_63, e3_64, L, Nat.reduceEqDiff, if_false, if_true]
  | 2, _ => show Rn E d 3 46 _ _ _ = _; simp (disch := omega) only [e3_36, e3_37, e3_38, e3_39, e3_40, e3_41, e3_42, e3_43, e3_44, e3_45, e3_46, e3_49, e3_50, e3_51, e3_52, e3_55, e3_56, e3_57, e3_59, e3_60, e3_61, e3_62, e3_63, e3_64, L, Nat.reduceEqDiff, if_false, if_true]
  | 3, _ => show Rn E d 3 40 _ _ _ = _; simp (disch := omega) only [e3_36, e3_37, e3_38, e3_39, e3_40, e3_41, e3_42, e3_43, e3_44, e3_45, e3_46, e3_49, e3_50, e3_51, e3_52, e3_55, e3_56, e3_57, e3_59, e3_60, e3_61, e3_62, e3_63, e3_64, L, Nat.reduceEqDiff, if_false, if_true]
  | 4, _ => show Rn E d 3 52 _ _ _ = _; simp (disch := omega) only [e3_36, e3_37, e3_38, e3_39, e3_40, e3_41, e3_42, e3_43, e3_44, e3_45, e3_46, e3_49, e3_50, e3_51, e3_52, e3_55, e3_56, e3_57, e3_59, e3_60, e3_61, e3_62, e3_63, e3_64, L, Nat.reduceEqDiff, if_false, if_true, sub_194]
  | 5, _ => show Rn E d 3 61 _ _ _ = _; simp (disch := omega) only [e3_36, e3_37, e3_38, e3_39, e3_40, e3_41, e3_42, e3_43, e3_44, e3_45, e3_46, e3_49, e3_50, e3_51, e3_52, e3_55, e3_56, e3_57, e3_59, e3_60, e3_61, e3_62, e3_63, e3_64, L, Nat.reduceEqDiff, if_false, if_true]
end Cls
