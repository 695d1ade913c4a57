/-! DEALING -/
def zk (A : Tn) : Nat → Int32
  | 0 => tC A 9
  | k + 1 => zN (zk A k)
def frF (A : Tn) : Nat → Nat → Option Nat
  | 0, _ => none
  | r + 1, pz => if spFr A (nI pz) = true then some pz else frF A r ((pz + 1) % 20)
def dlK (A : Tn) : Int32 := irem (zD (zk A 1)) (nI 6)
def dlQ (A : Tn) : Int32 := irem (zD (zk A 2)) (nI 20)
def dlS (A : Tn) : Int32 := nI 20 + irem (zD (zk A 3)) (nI 60)
def dlN (A : Tn) : Int32 := irem (zD (zk A 4)) (nI 30)
def dlL (A : Tn) : Int32 := irem (zD (zk A 5)) (nI 9) - nI 1
def dlT (A : Tn) : Option Tn := match frF A 20 (ix (dlQ A)) with
  | none => none
  | some pz => some (tnP (tnC A 9 (zk A 5)) (dlK A) (nI pz) (dlS A) (dlN A) (dlL A))
def dlG (A : Tn) : Tn := (dlT A).getD (tnC A 9 (zk A 5))
def dlF : Nat → Tn → Nat → Tn × Nat
  | 0, A, cz => (A, cz)
  | r + 1, A, cz => match dlT A with
    | none => (tnC A 9 (zk A 5), cz)
    | some A2 => dlF r A2 (cz + 1)
theorem frF_ok {A : Tn} : ∀ r pz, pz < 20 → ∀ qz, frF A r pz = some qz → qz < 20 ∧ spFr A (nI qz) = true := by
  intro r
  induction r with
  | zero => intro pz _ qz h; cases h
  | succ r ih =>
    intro pz hp qz h
    unfold frF at h
    split at h
    · rename_i h1; cases h; exact ⟨hp, h1⟩
    · exact ih _ (Nat.mod_lt _ (by omega)) qz h
theorem dlQ_n (A : Tn) : ix (dlQ A) < 20 ∧ dlQ A = nI (ix (dlQ A)) := by
  obtain ⟨nz, hn, en⟩ := zD_n (zk A 2)
  have h1 : dlQ A = nI (nz % 20) := by unfold dlQ; rw [en, rem_n (by omega) (by omega) (by omega)]
  have h2 := Nat.mod_lt nz (show 20 > 0 by omega)
  rw [h1, ix_n (by omega)]
  exact ⟨h2, rfl⟩
theorem dlK_n (A : Tn) : ∃ cz, cz < 6 ∧ dlK A = nI cz := by
  obtain ⟨nz, hn, en⟩ := zD_n (zk A 1)
  exact ⟨nz % 6, Nat.mod_lt _ (by omega), by unfold dlK; rw [en, rem_n (by omega) (by omega) (by omega)]⟩
theorem dlS_r (A : Tn) : rg 0 200 (dlS A) = true := by
  obtain ⟨nz, hn, en⟩ := zD_n (zk A 3)
  have h2 := Nat.mod_lt nz (show 60 > 0 by omega)
  unfold dlS
  rw [en, rem_n (by omega) (by omega) (by omega), nI_add, show (200 : Int) = ((200 : Nat) : Int) from rfl, rg_nI (by omega)]
  simp
  omega
theorem dlN_r (A : Tn) : rg 0 50 (dlN A) = true := by
  obtain ⟨nz, hn, en⟩ := zD_n (zk A 4)
  have h2 := Nat.mod_lt nz (show 30 > 0 by omega)
  unfold dlN
  rw [en, rem_n (by omega) (by omega) (by omega), show (50 : Int) = ((50 : Nat) : Int) from rfl, rg_nI (by omega)]
  simp
  omega
theorem dlL_r (A : Tn) : rg (-1) 7 (dlL A) = true := by
  obtain ⟨nz, hn, en⟩ := zD_n (zk A 5)
  have h2 := Nat.mod_lt nz (show 9 > 0 by omega)
  unfold dlL
  rw [en, rem_n (by omega) (by omega) (by omega)]
  have : ∀ a, a < 9 → rg (-1) 7 (nI a - nI 1) = true := by decide +kernel
  exact this _ h2
theorem frF_c {A : Tn} {zv : Int32} : ∀ r pz, frF (tnC A 9 zv) r pz = frF A r pz := by
  intro r
  induction r with
  | zero => intro pz; rfl
  | succ r ih =>
    intro pz
    unfold frF
    rw [ih]
    rfl
theorem dl_ok {A : Tn} (hW : WFp A) (h8 : tN A < 8) : WFp (dlG A) ∧ tX (dlG A) = tX A ∧ (∀ i, i ≠ 9 → tC (dlG A) i = tC A i) ∧ tN (dlG A) = if (dlT A).isSome = true then tN A + 1 else tN A := by
  have hq : eqT (tnC A 9 (zk A 5)) A := eqT_c (by omega)
  unfold dlG dlT
  cases hf : frF A 20 (ix (dlQ A)) with
  | none => exact ⟨hq.wfp hW, rfl, fun i hi => if_neg hi, rfl⟩
  | some pz =>
    obtain ⟨f1, f2⟩ := frF_ok 20 _ (dlQ_n A).1 pz hf
    obtain ⟨cz, hc, ec⟩ := dlK_n A
    refine ⟨?_, rfl, fun i hi => if_neg hi, rfl⟩
    show WFp (tnP (tnC A 9 (zk A 5)) (dlK A) (nI pz) (dlS A) (dlN A) (dlL A))
    rw [ec]
    exact WFp_p (hq.wfp hW) h8 hc f1 f2 (dlS_r A) (dlN_r A) (dlL_r A)
section Deal2
variable {E : aE} {d h : Nat} {S : aSt} {σ : Nat → Nat → Int32} {A B : Tn} {im : Bool}
theorem c_freeFrom_l {fz : Nat} (hT : isT h) (hC : CR σ h A) (h8 : tN A ≤ 8) (hf : fz < 20) : ∀ r kz (w3 : Option Value), kz + r = 20 → Rn E (d + 1) 39 2 [some (.ref h), some (.int (nI fz)), some (.int (nI kz)), w3] [] (shp, σ) = some (some (.int (oI (frF A r ((fz + kz) % 20)))), (shp, σ)) := by
  intro r
  induction r with
  | zero =>
    intro kz w3 hk
    have h1 : 20 ≤ kz := by omega
    simp (disch := omega) only [e39_0, e39_1, e39_2, e39_3, e39_5, e39_8, e39_9, e39_10, e39_11, e39_13, e39_14, e39_15, e39_16, e39_17, e39_20, e39_23, e39_24, e39_25, e39_28, e39_31, e39_32, nI_leI, h1, if_true, frF, oI]
  | succ r ih =>
    intro kz w3 hk
    have h1 : ¬ 20 ≤ kz := by omega
    have hm := Nat.mod_lt (fz + kz) (show 20 > 0 by omega)
    rw [e39_2]
    simp (disch := omega) only [e39_3, e39_5, e39_8, e39_9, e39_10, e39_11, e39_13, e39_14, e39_15, e39_16, e39_17, e39_20, vT hT, ↓reduceIte, inb_n, ix_n, if_true, ne_eq, Nat.reduceEqDiff, not_false_eq_true, clK_s, tl_s, tl_n, clr_i, clr_n, clr_a, nI_add, nI_leI, h1, rm_n, rem_n, c_isFree hT hC h8 hm, bI_0]
    unfold frF
    cases hs : spFr A (nI ((fz + kz) % 20)) with
    | true => simp only [Bool.true_eq_false, if_false, if_true, e39_23, e39_24, oI]
    | false =>
      simp only [if_true, Bool.false_eq_true, if_false, e39_25, e39_28, ↓reduceIte, inb_n, ix_n, if_true, ne_eq, Nat.reduceEqDiff, not_false_eq_true, clK_s, tl_s, tl_n, clr_i, clr_n, clr_a, nI_add]
      have := ih (kz + 1) (some (.int (nI ((fz + kz) % 20)))) (by omega)
      rw [show (fz + (kz + 1)) % 20 = ((fz + kz) % 20 + 1) % 20 by omega] at this
      exact this
theorem c_freeFrom {fz : Nat} (hT : isT h) (hC : CR σ h A) (h8 : tN A ≤ 8) (hf : fz < 20) : Rn E (d + 1) 39 0 [some (.ref h), some (.int (nI fz)), none, none] [] (shp, σ) = some (some (.int (oI (frF A 20 fz))), (shp, σ)) := by
  simp only [e39_0, e39_1, clr_i]
  have := c_freeFrom_l (E := E) (d := d) hT hC h8 hf 20 0 none (by omega)
  rw [show (fz + 0) % 20 = fz by omega] at this
  exact this
theorem c_drawsOne (hT : isT h) (hC : CR σ h A) (hW : WFp A) (h8 : tN A < 8) : ∃ σ2, Rn E (d + 2) 38 0 [some (.ref h), none, none, none, none, none] [] (shp, σ) = some (some (.int (bI (dlT A).isSome)), (shp, σ2)) ∧ FT h σ σ2 ∧ CR σ2 h (dlG A) := by
  have hT2 : h = 36 ∨ h = 46 ∨ h = 56 := hT
  obtain ⟨q1, q2⟩ := dlQ_n A
  have d0 := hC.z
  have C1 : CR (su σ h 16 (zk A 1)) h (tnC A 9 (zk A 1)) := CR_c (i := 9) hC (by omega)
  have d1 : su σ h 16 (zk A 1) h 16 = zk A 1 := C1.z
  have C2 : CR (su (su σ h 16 (zk A 1)) h 16 (zk A 2)) h (tnC A 9 (zk A 2)) := by
    have := CR_c (i := 9) (xv := zk A 2) C1 (by omega)
    rw [tnC_tnC] at this; exact this
  have d2 : su (su σ h 16 (zk A 1)) h 16 (zk A 2) h 16 = zk A 2 := C2.z
  have C3 : CR (su (su (su σ h 16 (zk A 1)) h 16 (zk A 2)) h 16 (zk A 3)) h (tnC A 9 (zk A 3)) := by
    have := CR_c (i := 9) (xv := zk A 3) C2 (by omega)
    rw [tnC_tnC] at this; exact this
  have d3 : su (su (su σ h 16 (zk A 1)) h 16 (zk A 2)) h 16 (zk A 3) h 16 = zk A 3 := C3.z
  have C4 : CR (su (su (su (su σ h 16 (zk A 1)) h 16 (zk A 2)) h 16 (zk A 3)) h 16 (zk A 4)) h (tnC A 9 (zk A 4)) := by
    have := CR_c (i := 9) (xv := zk A 4) C3 (by omega)
    rw [tnC_tnC] at this; exact this
  have d4 : su (su (su (su σ h 16 (zk A 1)) h 16 (zk A 2)) h 16 (zk A 3)) h 16 (zk A 4) h 16 = zk A 4 := C4.z
  have C5 : CR (su (su (su (su (su σ h 16 (zk A 1)) h 16 (zk A 2)) h 16 (zk A 3)) h 16 (zk A 4)) h 16 (zk A 5)) h (tnC A 9 (zk A 5)) := by
    have := CR_c (i := 9) (xv := zk A 5) C4 (by omega)
    rw [tnC_tnC] at this; exact this
  have e5 : su (su (su (su (su σ h 16 (zk A 1)) h 16 (zk A 2)) h 16 (zk A 3)) h 16 (zk A 4)) h 16 (zk A 5) h 10 = nI (tN A) := C5.1
  have y0 : zN (tC A 9) = zk A 1 := rfl
  have y1 : zN (zk A 1) = zk A 2 := rfl
  have y2 : zN (zk A 2) = zk A 3 := rfl
  have y3 : zN (zk A 3) = zk A 4 := rfl
  have y4 : zN (zk A 4) = zk A 5 := rfl
  have x1 : irem (zD (zk A 1)) (nI 6) = dlK A := rfl
  have x2 : irem (zD (zk A 2)) (nI 20) = nI (ix (dlQ A)) := q2
  have x3 : nI 20 + irem (zD (zk A 3)) (nI 60) = dlS A := rfl
  have x4 : irem (zD (zk A 4)) (nI 30) = dlN A := rfl
  have x5 : irem (zD (zk A 5)) (nI 9) - nI 1 = dlL A := rfl
  have hn1 : nI (tN A) < nI 8 := nI_lt h8 (by omega)
  have ft : FT h σ (su (su (su (su (su σ h 16 (zk A 1)) h 16 (zk A 2)) h 16 (zk A 3)) h 16 (zk A 4)) h 16 (zk A 5)) := ((((FT.rf.pu (by omega) (by omega)).pu (by omega) (by omega)).pu (by omega) (by omega)).pu (by omega) (by omega)).pu (by omega) (by omega)
  simp (disch := omega) only [e38_0, e38_1, e38_4, e38_6, e38_7, e38_8, e38_9, e38_10, e38_13, e38_15, e38_16, e38_19, e38_20, e38_22, e38_23, e38_26, e38_28, e38_29, e38_30, e38_31, e38_32, e38_35, e38_37, e38_38, e38_40, e38_41, e38_44, e38_46, e38_47, e38_48, e38_49, e38_51, gT_0 hT, gT_1 hT, gT_2 hT, gT_3 hT, gT_4 hT, gT_5 hT, gT_6 hT, gT_7 hT, gT_8 hT, gT_9 hT, gT_10 hT, gT_11 hT, gT_12 hT, gT_13 hT, gT_14 hT, gT_15 hT, gT_16 hT, gT_17 hT, pT_10 hT, pT_11 hT, pT_12 hT, pT_13 hT, pT_14 hT, pT_15 hT, pT_16 hT, pT_17 hT, aT_1 hT, aT_2 hT, aT_3 hT, aT_4 hT, aT_5 hT, aT_6 hT, aT_7 hT, aT_8 hT, aT_9 hT, sT_1 hT, sT_2 hT, sT_3 hT, sT_4 hT, sT_5 hT, sT_6 hT, sT_7 hT, sT_8 hT, sT_9 hT, vT hT, ↓reduceIte, inb_n, ix_n, if_true, ne_eq, Nat.reduceEqDiff, not_false_eq_true, clK_s, tl_s, tl_n, clr_i, clr_n, clr_a, nI_add, c_draw hT d0, y0, rm_n, x1, c_draw hT d1, y1, x2, c_freeFrom hT C2 (show tN (tnC A 9 (zk A 2)) ≤ 8 from Nat.le_of_lt h8) q1, frF_c, c_draw hT d2, y2, x3, c_draw hT d3, y3, x4, c_draw hT d4, y4, x5]
  rw [e38_52]
  have hlt : ∀ kz, frF A 20 (ix (dlQ A)) = some kz → kz < 2 ^ 31 := fun kz hk => by have := (frF_ok 20 _ q1 kz hk).1; omega
  simp only [oI_neg hlt]
  cases hf : frF A 20 (ix (dlQ A)) with
  | none =>
    have hT3 : dlT A = none := by unfold dlT; rw [hf]
    simp only [if_true, e38_64, e38_65, rz_0]
    refine ⟨_, by rw [hT3]; rfl, ft, ?_⟩
    unfold dlG
    rw [hT3]
    exact C5
  | some pz =>
    obtain ⟨f1, f2⟩ := frF_ok 20 _ q1 pz hf
    have hT3 : dlT A = some (tnP (tnC A 9 (zk A 5)) (dlK A) (nI pz) (dlS A) (dlN A) (dlL A)) := by unfold dlT; rw [hf]
    obtain ⟨σ2, a1, a2, a3⟩ := c_comes (E := E) (d := d + 1) (v0 := dlK A) (v2 := dlS A) (v3 := dlN A) (v4 := dlL A) hT C5 h8 f1 (spFr_iff.mp f2).1
    simp (disch := omega) only [reduceCtorEq, if_false, oI, e38_55, e38_56, e38_59, e38_61, e38_64, e38_65, e38_66, e38_67, e38_68, e38_69, e38_70, e38_72, e38_74, e38_77, e38_78, e38_79, gT_0 hT, gT_1 hT, gT_2 hT, gT_3 hT, gT_4 hT, gT_5 hT, gT_6 hT, gT_7 hT, gT_8 hT, gT_9 hT, gT_10 hT, gT_11 hT, gT_12 hT, gT_13 hT, gT_14 hT, gT_15 hT, gT_16 hT, gT_17 hT, pT_10 hT, pT_11 hT, pT_12 hT, pT_13 hT, pT_14 hT, pT_15 hT, pT_16 hT, pT_17 hT, aT_1 hT, aT_2 hT, aT_3 hT, aT_4 hT, aT_5 hT, aT_6 hT, aT_7 hT, aT_8 hT, aT_9 hT, sT_1 hT, sT_2 hT, sT_3 hT, sT_4 hT, sT_5 hT, sT_6 hT, sT_7 hT, sT_8 hT, sT_9 hT, vT hT, ↓reduceIte, inb_n, ix_n, if_true, ne_eq, Nat.reduceEqDiff, not_false_eq_true, clK_s, tl_s, tl_n, clr_i, clr_n, clr_a, nI_add, e5, hn1, a1, rz_1]
    refine ⟨σ2, by rw [hT3]; rfl, ft.tr a2, ?_⟩
    unfold dlG
    rw [hT3]
    exact a3
theorem k_deal_f (hM : MR (σ 94) A) (h8 : tN A ≤ 8) {l1 l2 l3 l4 l6 l7 l8 : Option Value} (c4 : clr l4 = l4) (c8 : clr l8 = l8) : ∀ r tz pz, tz + r = 20 → pz < 20 →
    ∃ qz uz, Rn E (d + 3) 142 92 [some (.ref 93), l1, l2, l3, l4, some (.int (nI pz)), l6, l7, l8, some (.int (nI tz))] [] (shp, σ) = Rn E (d + 3) 142 123 [some (.ref 93), l1, l2, l3, l4, some (.int (nI qz)), l6, l7, l8, some (.int (nI uz))] [] (shp, σ) ∧ ((frF A r pz = none ∧ uz = 20) ∨ (frF A r pz = some qz ∧ uz < 20)) := by
  intro r
  induction r with
  | zero =>
    intro tz pz ht hp
    have h1 : 20 ≤ tz := by omega
    refine ⟨pz, tz, ?_, Or.inl ⟨rfl, by omega⟩⟩
    rw [e142_92]
    simp (disch := omega) only [e142_94, e142_96, nI_leI, h1, if_true]
  | succ r ih =>
    intro tz pz ht hp
    have h1 : ¬ 20 ≤ tz := by omega
    cases hs : spFr A (nI pz) with
    | true =>
      refine ⟨pz, tz, ?_, Or.inr ⟨by unfold frF; rw [if_pos hs], by omega⟩⟩
      rw [e142_92]
      simp (disch := omega) only [e142_94, e142_96, e142_99, e142_100, e142_102, e142_105, ↓reduceIte, gM_0, a_94, inb_n, ix_n, if_true, ne_eq, Nat.reduceEqDiff, not_false_eq_true, vM, clK_s, tl_s, tl_n, clr_i, clr_n, clr_a, nI_add, nI_leI, h1, k_isFree hM h8, hs, bI_0, Bool.true_eq_false, Bool.false_eq_true, not_true_eq_false, not_false_eq_true, if_false, reduceCtorEq]
    | false =>
      obtain ⟨qz, uz, g1, g2⟩ := ih (tz + 1) ((pz + 1) % 20) (by omega) (Nat.mod_lt _ (by omega))
      refine ⟨qz, uz, ?_, ?_⟩
      · rw [← g1, e142_92]
        simp (disch := omega) only [e142_94, e142_96, e142_99, e142_100, e142_102, e142_105, e142_108, e142_110, e142_111, e142_112, e142_114, e142_115, e142_117, e142_120, ↓reduceIte, gM_0, a_94, inb_n, ix_n, if_true, ne_eq, Nat.reduceEqDiff, not_false_eq_true, vM, clK_s, tl_s, tl_n, clr_i, clr_n, clr_a, nI_add, nI_leI, h1, k_isFree hM h8, hs, bI_0, Bool.true_eq_false, Bool.false_eq_true, not_true_eq_false, not_false_eq_true, if_false, reduceCtorEq, rm_n, rem_n, c4, c8]
      · unfold frF
        rw [hs, if_neg (by decide)]
        exact g2
theorem k_deal_1 {nz cz : Nat} {w4 w5 w6 w7 w8 w9 : Option Value} (hM : MR (σ 94) A) (hW : WFp A) (h8 : tN A < 8) (hn : nz ≤ 8) (hc : cz < nz) :
    ∃ σ2 v4 v5 v6 v7 v8 v9, Rn E (d + 3) 142 19 [some (.ref 93), some (.int (nI nz)), some (.int (nI cz)), some (.int (nI 1)), w4, w5, w6, w7, w8, w9] [] (shp, σ) = Rn E (d + 3) 142 19 [some (.ref 93), some (.int (nI nz)), some (.int (nI (if (dlT A).isSome = true then cz + 1 else cz))), some (.int (bI (dlT A).isSome)), v4, v5, v6, v7, v8, v9] [] (shp, σ2) ∧ Fr [94] σ σ2 ∧ MR (σ2 94) (dlG A) := by
  obtain ⟨q1, q2⟩ := dlQ_n A
  have h88 : tN A ≤ 8 := by omega
  have m0 := hM.1
  have d0 : σ 94 9 = tC A 9 := hM.2.2.1 9 (by omega) (by omega)
  have C1 : MR (su σ 94 9 (zk A 1) 94) (tnC A 9 (zk A 1)) := by rw [su_rf]; exact MR_c hM h88 (by omega)
  have d1 : su σ 94 9 (zk A 1) 94 9 = zk A 1 := C1.2.2.1 9 (by omega) (by omega)
  have C2 : MR (su (su σ 94 9 (zk A 1)) 94 9 (zk A 2) 94) (tnC A 9 (zk A 2)) := by
    rw [su_rf]
    have := MR_c (iz := 9) (xv := zk A 2) C1 h88 (by omega)
    rw [tnC_tnC] at this; exact this
  have d2 : su (su σ 94 9 (zk A 1)) 94 9 (zk A 2) 94 9 = zk A 2 := C2.2.2.1 9 (by omega) (by omega)
  have C3 : MR (su (su (su σ 94 9 (zk A 1)) 94 9 (zk A 2)) 94 9 (zk A 3) 94) (tnC A 9 (zk A 3)) := by
    rw [su_rf]
    have := MR_c (iz := 9) (xv := zk A 3) C2 h88 (by omega)
    rw [tnC_tnC] at this; exact this
  have d3 : su (su (su σ 94 9 (zk A 1)) 94 9 (zk A 2)) 94 9 (zk A 3) 94 9 = zk A 3 := C3.2.2.1 9 (by omega) (by omega)
  have C4 : MR (su (su (su (su σ 94 9 (zk A 1)) 94 9 (zk A 2)) 94 9 (zk A 3)) 94 9 (zk A 4) 94) (tnC A 9 (zk A 4)) := by
    rw [su_rf]
    have := MR_c (iz := 9) (xv := zk A 4) C3 h88 (by omega)
    rw [tnC_tnC] at this; exact this
  have d4 : su (su (su (su σ 94 9 (zk A 1)) 94 9 (zk A 2)) 94 9 (zk A 3)) 94 9 (zk A 4) 94 9 = zk A 4 := C4.2.2.1 9 (by omega) (by omega)
  have C5 : MR (su (su (su (su (su σ 94 9 (zk A 1)) 94 9 (zk A 2)) 94 9 (zk A 3)) 94 9 (zk A 4)) 94 9 (zk A 5) 94) (tnC A 9 (zk A 5)) := by
    rw [su_rf]
    have := MR_c (iz := 9) (xv := zk A 5) C4 h88 (by omega)
    rw [tnC_tnC] at this; exact this
  have y0 : zN (tC A 9) = zk A 1 := rfl
  have y1 : zN (zk A 1) = zk A 2 := rfl
  have y2 : zN (zk A 2) = zk A 3 := rfl
  have y3 : zN (zk A 3) = zk A 4 := rfl
  have y4 : zN (zk A 4) = zk A 5 := rfl
  have x1 : irem (zD (zk A 1)) (nI 6) = dlK A := rfl
  have x2 : irem (zD (zk A 2)) (nI 20) = nI (ix (dlQ A)) := q2
  have x3 : nI 20 + irem (zD (zk A 3)) (nI 60) = dlS A := rfl
  have x4 : irem (zD (zk A 4)) (nI 30) = dlN A := rfl
  have x5 : irem (zD (zk A 5)) (nI 9) - nI 1 = dlL A := rfl
  have hn1 : ¬ 8 ≤ tN A := by omega
  have hc1 : ¬ nz ≤ cz := by omega
  have fr : Fr [94] σ (su (su (su (su (su σ 94 9 (zk A 1)) 94 9 (zk A 2)) 94 9 (zk A 3)) 94 9 (zk A 4)) 94 9 (zk A 5)) := ((((Fr.rf.su (by decide)).su (by decide)).su (by decide)).su (by decide)).su (by decide)
  obtain ⟨qz, uz, g1, g2⟩ := k_deal_f (E := E) (d := d) (A := tnC A 9 (zk A 5)) C5 h88 (l1 := some (.int (nI nz))) (l2 := some (.int (nI cz))) (l3 := some (.int (nI 1))) (l4 := some (.int (dlK A))) (l6 := some (.int (dlS A))) (l7 := some (.int (dlN A))) (l8 := some (.int (dlL A))) rfl rfl 20 0 (ix (dlQ A)) (by omega) q1
  rw [frF_c] at g2
  conv in Rn E (d + 3) 142 19 _ _ (shp, σ) => rw [e142_19]
  simp (disch := omega) only [e142_20, e142_21, e142_24, e142_25, e142_28, e142_29, e142_30, e142_32, e142_35, e142_36, e142_39, e142_40, e142_43, e142_45, e142_46, e142_48, e142_49, e142_52, e142_54, e142_55, e142_57, e142_59, e142_60, e142_63, e142_65, e142_66, e142_67, e142_69, e142_70, e142_73, e142_75, e142_76, e142_78, e142_79, e142_82, e142_84, e142_85, e142_86, e142_87, e142_89, e142_90, ↓reduceIte, gM_0, a_94, inb_n, ix_n, if_true, ne_eq, Nat.reduceEqDiff, not_false_eq_true, vM, clK_s, tl_s, tl_n, clr_i, clr_n, clr_a, nI_add, nI_leI, hc1, m0, hn1, n10, k_drawn d0, y0, rm_n, x1, k_drawn d1, y1, x2, k_drawn d2, y2, x3, k_drawn d3, y3, x4, k_drawn d4, y4, x5, g1]
  rcases g2 with ⟨hf, hu⟩ | ⟨hf, hu⟩
  · have hT3 : dlT A = none := by unfold dlT; rw [hf]
    subst hu
    simp (disch := omega) only [e142_123, e142_125, e142_127, e142_130, e142_131, e142_134, e142_135, e142_136, e142_137, e142_140, e142_141, e142_143, e142_145, e142_147, e142_149, e142_151, e142_154, e142_157, ↓reduceIte, gM_0, a_94, inb_n, ix_n, if_true, ne_eq, Nat.reduceEqDiff, not_false_eq_true, vM, clK_s, tl_s, tl_n, clr_i, clr_n, clr_a, nI_add, nI_leI, Nat.le_refl, hT3]
    exact ⟨_, _, _, _, _, _, _, rfl, fr, by unfold dlG; rw [hT3]; exact C5⟩
  · obtain ⟨f1, f2⟩ := frF_ok 20 _ q1 qz hf
    have hT3 : dlT A = some (tnP (tnC A 9 (zk A 5)) (dlK A) (nI qz) (dlS A) (dlN A) (dlL A)) := by unfold dlT; rw [hf]
    obtain ⟨σ2, a1, a2, a3⟩ := k_comes (E := E) (d := d + 1) (v0 := dlK A) (v1 := nI qz) (v2 := dlS A) (v3 := dlN A) (v4 := dlL A) C5 h8
    have hu2 : ¬ 20 ≤ uz := by omega
    simp (disch := omega) only [e142_123, e142_125, e142_127, e142_130, e142_131, e142_134, e142_135, e142_136, e142_137, e142_140, e142_141, e142_143, e142_145, e142_147, e142_149, e142_151, e142_154, e142_157, ↓reduceIte, gM_0, a_94, inb_n, ix_n, if_true, ne_eq, Nat.reduceEqDiff, not_false_eq_true, vM, clK_s, tl_s, tl_n, clr_i, clr_n, clr_a, nI_add, nI_leI, hu2, n10, a1, hT3, Option.isSome_some]
    exact ⟨_, _, _, _, _, _, _, rfl, fr.tr a2, by unfold dlG; rw [hT3]; exact a3⟩
theorem k_deal_l {nz : Nat} (hn : nz ≤ 8) : ∀ r cz (A : Tn) (σ1 : Nat → Nat → Int32) (w4 w5 w6 w7 w8 w9 : Option Value), cz ≤ nz → r = min (nz - cz) (8 - tN A) → MR (σ1 94) A → WFp A →
    ∃ σ2, Rn E (d + 3) 142 19 [some (.ref 93), some (.int (nI nz)), some (.int (nI cz)), some (.int (nI 1)), w4, w5, w6, w7, w8, w9] [] (shp, σ1) = some (some (.int (nI (dlF r A cz).2)), (shp, σ2)) ∧ Fr [94] σ1 σ2 ∧ MR (σ2 94) (dlF r A cz).1 := by
  intro r
  induction r with
  | zero =>
    intro cz A σ1 w4 w5 w6 w7 w8 w9 hc hr hM hW
    have h8 := hW.1
    have m0 := hM.1
    refine ⟨σ1, ?_, Fr.rf, hM⟩
    rw [e142_19]
    by_cases h1 : nz ≤ cz
    · simp (disch := omega) only [e142_20, e142_21, e142_160, e142_161, ↓reduceIte, gM_0, a_94, inb_n, ix_n, if_true, ne_eq, Nat.reduceEqDiff, not_false_eq_true, vM, clK_s, tl_s, tl_n, clr_i, clr_n, clr_a, nI_add, nI_leI, h1, dlF]
    · have h2 : 8 ≤ tN A := by omega
      simp (disch := omega) only [e142_20, e142_21, e142_24, e142_25, e142_28, e142_29, e142_30, e142_32, e142_160, e142_161, ↓reduceIte, gM_0, a_94, inb_n, ix_n, if_true, ne_eq, Nat.reduceEqDiff, not_false_eq_true, vM, clK_s, tl_s, tl_n, clr_i, clr_n, clr_a, nI_add, nI_leI, h1, m0, h2, dlF]
  | succ r ih =>
    intro cz A σ1 w4 w5 w6 w7 w8 w9 hc hr hM hW
    have h8 : tN A < 8 := by omega
    have hcn : cz < nz := by omega
    obtain ⟨σ2, v4, v5, v6, v7, v8, v9, g1, g2, g3⟩ := k_deal_1 (E := E) (d := d) (w4 := w4) (w5 := w5) (w6 := w6) (w7 := w7) (w8 := w8) (w9 := w9) hM hW h8 hn hcn
    obtain ⟨o1, o2, o3, o4⟩ := dl_ok hW h8
    rw [g1]
    unfold dlF
    cases hT3 : dlT A with
    | none =>
      have hG : dlG A = tnC A 9 (zk A 5) := by unfold dlG; rw [hT3]; rfl
      rw [hG] at g3
      have m0 : σ2 94 0 = nI (tN A) := g3.1
      have h1 : ¬ nz ≤ cz := by omega
      have h2 : ¬ 8 ≤ tN A := by omega
      refine ⟨σ2, ?_, g2, g3⟩
      rw [e142_19]
      simp (disch := omega) only [e142_20, e142_21, e142_24, e142_25, e142_28, e142_29, e142_30, e142_32, e142_35, e142_36, e142_160, e142_161, ↓reduceIte, gM_0, a_94, inb_n, ix_n, if_true, ne_eq, Nat.reduceEqDiff, not_false_eq_true, vM, clK_s, tl_s, tl_n, clr_i, clr_n, clr_a, nI_add, nI_leI, h1, m0, h2, Option.isSome_none, bI_0, Bool.true_eq_false, Bool.false_eq_true, not_true_eq_false, not_false_eq_true, if_false, reduceCtorEq]
    | some A2 =>
      have hG : dlG A = A2 := by unfold dlG; rw [hT3]; rfl
      rw [hG] at g3 o1 o4
      rw [hT3] at o4
      have o4 : tN A2 = tN A + 1 := o4
      obtain ⟨σ3, b1, b2, b3⟩ := ih (cz + 1) A2 σ2 v4 v5 v6 v7 v8 v9 (by omega) (by omega) g3 o1
      exact ⟨σ3, b1, g2.tr b2, b3⟩
theorem c_deal_l {rz : Nat} {w1 : Option Value} (hr8 : rz ≤ 8) : ∀ r cz (A : Tn) (σ1 : Nat → Nat → Int32), cz + r = rz → r ≤ 8 - tN A → CR σ1 36 A → WFp A →
    ∃ σ2, Rn E (d + 3) 60 30 [some (.ref 0), w1, some (.int (nI rz)), some (.int (nI cz))] [] (shp, σ1) = some (some (.int (nI (dlF r A cz).2)), (shp, σ2)) ∧ FT 36 σ1 σ2 ∧ CR σ2 36 (dlF r A cz).1 ∧ WFp (dlF r A cz).1 ∧ tX (dlF r A cz).1 = tX A ∧ ∀ i, i ≠ 9 → tC (dlF r A cz).1 i = tC A i := by
  intro r
  induction r with
  | zero =>
    intro cz A σ1 hc hr hC hW
    have h1 : rz ≤ cz := by omega
    refine ⟨σ1, ?_, FT.rf, hC, hW, rfl, fun _ _ => rfl⟩
    simp (disch := omega) only [e60_30, e60_31, e60_32, e60_35, e60_36, e60_39, e60_42, e60_45, e60_48, e60_51, e60_52, ↓reduceIte, inb_n, ix_n, if_true, ne_eq, Nat.reduceEqDiff, not_false_eq_true, clK_s, tl_s, tl_n, clr_i, clr_n, clr_a, nI_add, nI_leI, h1, dlF]
  | succ r ih =>
    intro cz A σ1 hc hr hC hW
    have h8 : tN A < 8 := by omega
    have h1 : ¬ rz ≤ cz := by omega
    obtain ⟨σ2, g1, g2, g3⟩ := c_drawsOne (E := E) (d := d) t36 hC hW h8
    obtain ⟨o1, o2, o3, o4⟩ := dl_ok hW h8
    rw [e60_30]
    simp (disch := omega) only [e60_31, e60_32, e60_35, e60_36, e60_39, e60_42, ↓reduceIte, inb_n, ix_n, if_true, ne_eq, Nat.reduceEqDiff, not_false_eq_true, clK_s, tl_s, tl_n, clr_i, clr_n, clr_a, nI_add, nI_leI, h1, gX_2, gT_0 t36, gT_1 t36, gT_2 t36, gT_3 t36, gT_4 t36, gT_5 t36, gT_6 t36, gT_7 t36, gT_8 t36, gT_9 t36, gT_10 t36, gT_11 t36, gT_12 t36, gT_13 t36, gT_14 t36, gT_15 t36, gT_16 t36, gT_17 t36, pT_10 t36, pT_11 t36, pT_12 t36, pT_13 t36, pT_14 t36, pT_15 t36, pT_16 t36, pT_17 t36, aT_1 t36, aT_2 t36, aT_3 t36, aT_4 t36, aT_5 t36, aT_6 t36, aT_7 t36, aT_8 t36, aT_9 t36, sT_1 t36, sT_2 t36, sT_3 t36, sT_4 t36, sT_5 t36, sT_6 t36, sT_7 t36, sT_8 t36, sT_9 t36, vT t36, g1, bI_0]
    unfold dlF
    cases hT3 : dlT A with
    | none =>
      have hG : dlG A = tnC A 9 (zk A 5) := by unfold dlG; rw [hT3]; rfl
      rw [hG] at g3 o1 o2 o3
      refine ⟨σ2, ?_, g2, g3, o1, o2, o3⟩
      simp only [Option.isSome_none, if_true, e60_51, e60_52]
    | some A2 =>
      have hG : dlG A = A2 := by unfold dlG; rw [hT3]; rfl
      rw [hG] at g3 o1 o2 o3 o4
      rw [hT3] at o4
      have o4 : tN A2 = tN A + 1 := o4
      obtain ⟨σ3, b1, b2, b3, b4, b5, b6⟩ := ih (cz + 1) A2 σ2 (by omega) (by omega) g3 o1
      refine ⟨σ3, ?_, g2.tr b2, b3, b4, b5.trans o2, fun i hi => (b6 i hi).trans (o3 i hi)⟩
      simp only [Option.isSome_some, Bool.true_eq_false, if_false, e60_45, e60_48, ↓reduceIte, inb_n, ix_n, if_true, ne_eq, Nat.reduceEqDiff, not_false_eq_true, clK_s, tl_s, tl_n, clr_i, clr_n, clr_a, nI_add, b1]
theorem op_deal {xv : Int32} (hI : INV σ A B im) : OK2 σ (Rn E (d + 50) 60 0 [some (.ref 0), some (.int xv), none, none] []) (Rn E (d + 50) 142 0 [some (.ref 93), some (.int xv), none, none, none, none, none, none, none, none] []) := by
  obtain ⟨⟨hC, hM, hW, hX, hc, hR⟩, _⟩ := id hI
  have h8 := hW.1
  cases hb : rg 1 8 xv with
  | false =>
    refine ok_read (vv := (-1000000001)) hI ?_ ?_
    · simp (disch := omega) only [e60_0, e60_1, e60_2, e60_4, e60_7, e60_10, e60_12, ↓reduceIte, inb_n, ix_n, if_true, ne_eq, Nat.reduceEqDiff, not_false_eq_true, clK_s, tl_s, tl_n, clr_i, clr_n, clr_a, nI_add, c_isWithin, tI_0, tI_1, tI_2, tI_3, tI_4, tI_5, tI_6, tI_7, tI_8, tI_19, tI_20, tI_23, tI_24, tI_29, tI_30, tI_48, tI_50, tI_57, tI_60, tI_97, tI_100, tI_122, tI_200, tI_99999, tI_m1, tI_m99999, hb, bI_0, Bool.true_eq_false, Bool.false_eq_true, not_true_eq_false, not_false_eq_true, if_false, reduceCtorEq]
    · simp (disch := omega) only [e142_0, e142_1, e142_2, e142_3, e142_6, e142_9, e142_12, e142_14, ↓reduceIte, gM_0, a_94, inb_n, ix_n, if_true, ne_eq, Nat.reduceEqDiff, not_false_eq_true, vM, clK_s, tl_s, tl_n, clr_i, clr_n, clr_a, nI_add, k_in, rgL_c, tL_0, tL_1, tL_2, tL_3, tL_4, tL_5, tL_6, tL_7, tL_8, tL_19, tL_30, tL_48, tL_50, tL_57, tL_60, tL_97, tL_100, tL_122, tL_200, tL_99999, tL_m1, tL_m99999, hb, bI_0, Bool.true_eq_false, Bool.false_eq_true, not_true_eq_false, not_false_eq_true, if_false, reduceCtorEq]
  | true =>
    have hr := rg_iff.mp hb
    obtain ⟨nz, hn, rfl⟩ := rg_e (n := 8) (xv := xv) rfl (rg_iff.mpr ⟨by omega, hr.2⟩)
    have e0 := hC.1
    have hmin : imin (nI nz) (nI (8 - tN A)) = nI (min nz (8 - tN A)) := by
      unfold imin
      by_cases hq : 8 - tN A < nz
      · rw [if_pos (nI_lt hq (by omega)), Nat.min_eq_right (by omega)]
      · rw [if_neg (nI_nlt (by omega) (by omega)), Nat.min_eq_left (by omega)]
    obtain ⟨σ1, a1, a2, a3, a4, a5, a6⟩ := c_deal_l (E := E) (d := d + 47) (rz := min nz (8 - tN A)) (w1 := some (.int (nI nz))) (by omega) (min nz (8 - tN A)) 0 A σ (by omega) (by omega) hC hW
    have e94 : σ1 94 = σ 94 := a2 94 (by omega) (by omega)
    have hM1 : MR (σ1 94) A := by rw [e94]; exact hM
    obtain ⟨σ2, b1, b2, b3⟩ := k_deal_l (E := E) (d := d + 47) hn (min nz (8 - tN A)) 0 A σ1 none none none none none none (by omega) (by rw [Nat.sub_zero]) hM1 hW
    have hc2 : WFc (dlF (min nz (8 - tN A)) A 0).1 := by
      unfold WFc
      rw [a6 2 (by omega), a6 6 (by omega)]
      exact hc
    refine ⟨nI (dlF (min nz (8 - tN A)) A 0).2, σ1, σ2, (dlF (min nz (8 - tN A)) A 0).1, B, im, ?_, ?_, hI.q ((QT.f36 a2).tr (QT.fr (b2.mono (by decide)))) (a3.ext (fun a h1 h2 _ => b2 a (by simp; omega))) b3 a4 hc2 a5⟩
    · simp (disch := omega) only [e60_0, e60_1, e60_2, e60_4, e60_7, e60_10, e60_12, e60_13, e60_14, e60_16, e60_17, e60_20, e60_23, e60_24, e60_27, e60_28, e60_29, ↓reduceIte, inb_n, ix_n, if_true, ne_eq, Nat.reduceEqDiff, not_false_eq_true, clK_s, tl_s, tl_n, clr_i, clr_n, clr_a, nI_add, c_isWithin, tI_0, tI_1, tI_2, tI_3, tI_4, tI_5, tI_6, tI_7, tI_8, tI_19, tI_20, tI_23, tI_24, tI_29, tI_30, tI_48, tI_50, tI_57, tI_60, tI_97, tI_100, tI_122, tI_200, tI_99999, tI_m1, tI_m99999, hb, bI_0, Bool.true_eq_false, Bool.false_eq_true, not_true_eq_false, not_false_eq_true, if_false, reduceCtorEq, gX_2, gT_0 t36, gT_1 t36, gT_2 t36, gT_3 t36, gT_4 t36, gT_5 t36, gT_6 t36, gT_7 t36, gT_8 t36, gT_9 t36, gT_10 t36, gT_11 t36, gT_12 t36, gT_13 t36, gT_14 t36, gT_15 t36, gT_16 t36, gT_17 t36, pT_10 t36, pT_11 t36, pT_12 t36, pT_13 t36, pT_14 t36, pT_15 t36, pT_16 t36, pT_17 t36, aT_1 t36, aT_2 t36, aT_3 t36, aT_4 t36, aT_5 t36, aT_6 t36, aT_7 t36, aT_8 t36, aT_9 t36, sT_1 t36, sT_2 t36, sT_3 t36, sT_4 t36, sT_5 t36, sT_6 t36, sT_7 t36, sT_8 t36, sT_9 t36, vT t36, e0, pk_sub, hmin]
      exact a1
    · simp (disch := omega) only [e142_0, e142_1, e142_2, e142_3, e142_6, e142_9, e142_12, e142_14, e142_15, e142_16, e142_17, e142_18, ↓reduceIte, gM_0, a_94, inb_n, ix_n, if_true, ne_eq, Nat.reduceEqDiff, not_false_eq_true, vM, clK_s, tl_s, tl_n, clr_i, clr_n, clr_a, nI_add, k_in, rgL_c, tL_0, tL_1, tL_2, tL_3, tL_4, tL_5, tL_6, tL_7, tL_8, tL_19, tL_30, tL_48, tL_50, tL_57, tL_60, tL_97, tL_100, tL_122, tL_200, tL_99999, tL_m1, tL_m99999, hb, bI_0, Bool.true_eq_false, Bool.false_eq_true, not_true_eq_false, not_false_eq_true, if_false, reduceCtorEq]
      exact b1
end Deal2
