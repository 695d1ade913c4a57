/-! SEATS, WHAT WILL BE -/
def seV (A : Tn) (oz pz : Nat) : Nat := spCn (tnF A oz 1 (nI pz)) oz
def seB (o : Option (Nat × Nat)) (vz : Nat) : Bool := match o with
  | none => true
  | some x => decide (x.2 < vz)
def seF (A : Tn) (oz wz : Nat) : Nat → Nat → Option (Nat × Nat) → Option (Nat × Nat)
  | 0, _, o => o
  | r + 1, pz, o => seF A oz wz r (pz + 1) (if (pz = wz ∨ spFr A (nI pz) = true) ∧ seB o (seV A oz pz) = true then some (pz, seV A oz pz) else o)
def LB (c : Nat → Int32) (A : Tn) : Prop := ∀ s, (∀ i, i < 51 → s i = c i) → (∀ t tx, (tX A)[t]? = some tx → MTx s t tx) → MR s A
section Seat
variable {E : aE} {d : Nat} {σ : Nat → Nat → Int32} {A B : Tn} {im : Bool}
theorem WFp_st {oz pz wz : Nat} (hW : WFp A) (ho : oz < tN A) (hp : pz < 20) (hw : tF A oz 1 = nI wz) (hf : pz = wz ∨ spFr A (nI pz) = true) : WFp (tnF A oz 1 (nI pz)) := by
  rcases hf with rfl | hf
  · rw [← hw, tnF_id]; exact hW
  · exact WFp_mv hW ho hp hf
theorem oM_lt {o : Option (Nat × Nat)} (hok : okO o) : (∀ kz, o1 o = some kz → kz < 2 ^ 31) ∧ ∀ kz, o2 o = some kz → kz < 2 ^ 31 := by
  cases o with
  | none => exact ⟨fun kz h => (by cases h), fun kz h => (by cases h)⟩
  | some x =>
    obtain ⟨x1, x2⟩ := hok x rfl
    exact ⟨fun kz h => (by have : kz = x.1 := (Option.some.inj h).symm; omega), fun kz h => (by have : kz = x.2 := (Option.some.inj h).symm; omega)⟩
theorem st_le {o : Option (Nat × Nat)} {vz : Nat} (hok : okO o) (hv : vz ≤ 8) : (nI vz ≤ oI (o2 o)) ↔ seB o vz = false := by
  cases o with
  | none => exact iff_of_false (by rw [o2_n, oI_nn, Int32.le_iff_toInt_le, nI_toInt (by omega), nI_m1]; omega) (by simp [seB])
  | some x =>
    have := (hok x rfl).2
    rw [o2_s, oI_s, nI_leI (by omega) (by omega)]
    simp only [seB, decide_eq_false_iff_not]
    omega
theorem c_seat_l {oz wz : Nat} {yv : Int32} (hW : WFp A) (hX : WFx A) (ho : oz < tN A) (hw : tF A oz 1 = nI wz) (hw2 : wz < 20) : ∀ r pz (o : Option (Nat × Nat)) (σ1 : Nat → Nat → Int32) (qz : Nat) (w6 : Option Value), pz + r = 20 → okO o → CR σ1 36 A → CR σ1 56 (tnF A oz 1 (nI qz)) → qz < 20 → WFp (tnF A oz 1 (nI qz)) → TR σ1 (tX A) →
    ∃ σ2 w7, Rn E (d + 6) 68 42 [some (.ref 0), some (.int (nI oz)), some (.int yv), some (.int (oI (o1 o))), some (.int (oI (o2 o))), some (.int (nI pz)), w6] [] (shp, σ1) = Rn E (d + 6) 68 115 [some (.ref 0), some (.int (nI oz)), some (.int yv), some (.int (oI (o1 (seF A oz wz r pz o)))), some (.int (oI (o2 (seF A oz wz r pz o)))), some (.int (nI 20)), w7] [] (shp, σ2) ∧ FT 56 σ1 σ2 := by
  have h8 := hW.1
  intro r
  induction r with
  | zero =>
    intro pz o σ1 qz w6 hp hok hC hD hq hWq hR
    have h1 : 20 ≤ pz := by omega
    have h2 : pz = 20 := by omega
    refine ⟨σ1, w6, ?_, FT.rf⟩
    rw [e68_42]
    simp (disch := omega) only [e68_44, e68_46, ↓reduceIte, inb_n, ix_n, if_true, ne_eq, Nat.reduceEqDiff, not_false_eq_true, clK_s, tl_s, tl_n, clr_i, clr_n, clr_a, nI_add, nI_leI, h1, seF]
    rw [h2]
  | succ r ih =>
    intro pz o σ1 qz w6 hp hok hC hD hq hWq hR
    have h1 : ¬ 20 ≤ pz := by omega
    have hp20 : pz < 20 := by omega
    have q1 : σ1 (36 + 2) oz = nI wz := by rw [hC.k1 ho, hw]
    unfold seF
    generalize hO : (if (pz = wz ∨ spFr A (nI pz) = true) ∧ seB o (seV A oz pz) = true then some (pz, seV A oz pz) else o) = op
    by_cases hf : pz = wz ∨ spFr A (nI pz) = true
    · have hWx := WFp_st hW ho hp20 hw hf
      have hoq : tF (tnF A oz 1 (nI qz)) oz 1 = nI qz := if_pos ⟨rfl, rfl⟩
      have hset := c_settle (E := E) (d := d + 5) t56 hD h8 ho hoq hq hp20
      have hD2 : CR (su (su (su σ1 (56 + 7) qz (-1)) (56 + 2) oz (nI pz)) (56 + 7) pz (nI oz)) 56 (tnF A oz 1 (nI pz)) := by
        have := CR_mv hD hWq ho hoq hq hp20 (fun a ha hao => by
          have e : tF (tnF A oz 1 (nI qz)) a 1 = tF A a 1 := if_neg (fun z => hao z.1)
          rw [e]
          rcases hf with rfl | hf
          · intro z; exact hao (hW.2.2.1 a oz ha ho (z.trans hw.symm))
          · exact spW_none (spFr_iff.mp hf).1 a ha)
        rw [tnF_tnF] at this
        exact this
      have ft1 : FT 56 σ1 (su (su (su σ1 (56 + 7) qz (-1)) (56 + 2) oz (nI pz)) (56 + 7) pz (nI oz)) := ((FT.rf.pu (by omega) (by omega)).pu (by omega) (by omega)).pu (by omega) (by omega)
      obtain ⟨σ2, a1, a2, a3⟩ := c_eyesOn (E := E) (d := d) t56 hD2 hX (hR.ft hX.1 (by omega) ft1) hWx ho
      have a1 : Rn E (d + 5) 45 0 [some (.ref 56), some (.int (nI oz))] [] (shp, su (su (su σ1 (56 + 7) qz (-1)) (56 + 2) oz (nI pz)) (56 + 7) pz (nI oz)) = some (some (.int (nI (seV A oz pz))), (shp, σ2)) := a1
      have hv8 : seV A oz pz ≤ 8 := spCn_le hWx
      have ft2 := ft1.tr a2
      have hC2 : CR σ2 36 A := hC.ext (fun a h1 h2 _ => ft2 a (by omega) (by omega))
      have hR2 := hR.ft hX.1 (by omega) ft2
      have hnew : okO (some (pz, seV A oz pz)) := fun x hx => by cases hx; exact ⟨hp20, hv8⟩
      have hdone : ∀ o3 : Option (Nat × Nat), okO o3 → (∃ σ3 w7, Rn E (d + 6) 68 109 [some (.ref 0), some (.int (nI oz)), some (.int yv), some (.int (oI (o1 o3))), some (.int (oI (o2 o3))), some (.int (nI pz)), some (.int (nI (seV A oz pz)))] [] (shp, σ2) = Rn E (d + 6) 68 115 [some (.ref 0), some (.int (nI oz)), some (.int yv), some (.int (oI (o1 (seF A oz wz r (pz + 1) o3)))), some (.int (oI (o2 (seF A oz wz r (pz + 1) o3)))), some (.int (nI 20)), w7] [] (shp, σ3) ∧ FT 56 σ1 σ3) := by
        intro o3 h3
        obtain ⟨σ3, w7, g1, g2⟩ := ih (pz + 1) o3 σ2 pz (some (.int (nI (seV A oz pz)))) (by omega) h3 hC2 a3 hp20 hWx hR2
        refine ⟨σ3, w7, ?_, ft2.tr g2⟩
        rw [← g1]
        simp only [e68_109, e68_112, ↓reduceIte, inb_n, ix_n, if_true, ne_eq, Nat.reduceEqDiff, not_false_eq_true, clK_s, tl_s, tl_n, clr_i, clr_n, clr_a, nI_add]
      have hgo : ∃ σ3 w7, Rn E (d + 6) 68 75 [some (.ref 0), some (.int (nI oz)), some (.int yv), some (.int (oI (o1 o))), some (.int (oI (o2 o))), some (.int (nI pz)), w6] [] (shp, σ1) = Rn E (d + 6) 68 115 [some (.ref 0), some (.int (nI oz)), some (.int yv), some (.int (oI (o1 (seF A oz wz r (pz + 1) op)))), some (.int (oI (o2 (seF A oz wz r (pz + 1) op)))), some (.int (nI 20)), w7] [] (shp, σ3) ∧ FT 56 σ1 σ3 := by
        simp (disch := omega) only [e68_75, e68_76, e68_79, e68_80, e68_82, e68_85, e68_86, e68_89, e68_90, e68_93, e68_95, e68_97, e68_99, ↓reduceIte, inb_n, ix_n, if_true, ne_eq, Nat.reduceEqDiff, not_false_eq_true, clK_s, tl_s, tl_n, clr_i, clr_n, clr_a, nI_add, gX_4, gT_0 t56, gT_1 t56, gT_2 t56, gT_3 t56, gT_4 t56, gT_5 t56, gT_6 t56, gT_7 t56, gT_8 t56, gT_9 t56, gT_10 t56, gT_11 t56, gT_12 t56, gT_13 t56, gT_14 t56, gT_15 t56, gT_16 t56, gT_17 t56, pT_10 t56, pT_11 t56, pT_12 t56, pT_13 t56, pT_14 t56, pT_15 t56, pT_16 t56, pT_17 t56, aT_1 t56, aT_2 t56, aT_3 t56, aT_4 t56, aT_5 t56, aT_6 t56, aT_7 t56, aT_8 t56, aT_9 t56, sT_1 t56, sT_2 t56, sT_3 t56, sT_4 t56, sT_5 t56, sT_6 t56, sT_7 t56, sT_8 t56, sT_9 t56, vT t56, hset, a1, st_le hok hv8]
        cases hb : seB o (seV A oz pz) with
        | true =>
          have hop : op = some (pz, seV A oz pz) := by rw [← hO, if_pos ⟨hf, hb⟩]
          rw [hop]
          simp only [Bool.true_eq_false, if_false, e68_102, e68_104, e68_105, e68_107, ↓reduceIte, inb_n, ix_n, if_true, ne_eq, Nat.reduceEqDiff, not_false_eq_true, clK_s, tl_s, tl_n, clr_i, clr_n, clr_a, nI_add]
          exact hdone (some (pz, seV A oz pz)) hnew
        | false =>
          have hop : op = o := by rw [← hO, if_neg (fun z => by rw [hb] at z; exact absurd z.2 (by decide))]
          rw [hop]
          simp only [if_true]
          exact hdone o hok
      conv in Rn E (d + 6) 68 42 _ _ (shp, σ1) => rw [e68_42]
      by_cases hpw : pz = wz
      · have e1 : nI pz = nI wz := by rw [hpw]
        simp (disch := omega) only [e68_44, e68_46, e68_49, e68_51, e68_52, e68_55, e68_58, e68_59, ↓reduceIte, inb_n, ix_n, if_true, ne_eq, Nat.reduceEqDiff, not_false_eq_true, clK_s, tl_s, tl_n, clr_i, clr_n, clr_a, nI_add, nI_leI, h1, gX_2, gT_0 t36, gT_1 t36, gT_2 t36, gT_3 t36, gT_4 t36, gT_5 t36, gT_6 t36, gT_7 t36, gT_8 t36, gT_9 t36, gT_10 t36, gT_11 t36, gT_12 t36, gT_13 t36, gT_14 t36, gT_15 t36, gT_16 t36, gT_17 t36, pT_10 t36, pT_11 t36, pT_12 t36, pT_13 t36, pT_14 t36, pT_15 t36, pT_16 t36, pT_17 t36, aT_1 t36, aT_2 t36, aT_3 t36, aT_4 t36, aT_5 t36, aT_6 t36, aT_7 t36, aT_8 t36, aT_9 t36, sT_1 t36, sT_2 t36, sT_3 t36, sT_4 t36, sT_5 t36, sT_6 t36, sT_7 t36, sT_8 t36, sT_9 t36, vT t36, q1]
        rw [e68_60, if_pos e1]
        exact hgo
      · have hne : ¬ nI pz = nI wz := fun z => hpw ((nI_eq (by omega) (by omega)).mp z)
        have hfr : spFr A (nI pz) = true := by
          rcases hf with h | h
          · exact absurd h hpw
          · exact h
        simp (disch := omega) only [e68_44, e68_46, e68_49, e68_51, e68_52, e68_55, e68_58, e68_59, e68_60, e68_63, e68_64, e68_67, e68_69, e68_72, ↓reduceIte, inb_n, ix_n, if_true, ne_eq, Nat.reduceEqDiff, not_false_eq_true, clK_s, tl_s, tl_n, clr_i, clr_n, clr_a, nI_add, nI_leI, h1, gX_2, gT_0 t36, gT_1 t36, gT_2 t36, gT_3 t36, gT_4 t36, gT_5 t36, gT_6 t36, gT_7 t36, gT_8 t36, gT_9 t36, gT_10 t36, gT_11 t36, gT_12 t36, gT_13 t36, gT_14 t36, gT_15 t36, gT_16 t36, gT_17 t36, pT_10 t36, pT_11 t36, pT_12 t36, pT_13 t36, pT_14 t36, pT_15 t36, pT_16 t36, pT_17 t36, aT_1 t36, aT_2 t36, aT_3 t36, aT_4 t36, aT_5 t36, aT_6 t36, aT_7 t36, aT_8 t36, aT_9 t36, sT_1 t36, sT_2 t36, sT_3 t36, sT_4 t36, sT_5 t36, sT_6 t36, sT_7 t36, sT_8 t36, sT_9 t36, vT t36, q1, hne, c_isFree t36 hC h8 hp20, hfr, bI_0, Bool.true_eq_false, Bool.false_eq_true, not_true_eq_false, not_false_eq_true, if_false, reduceCtorEq]
        exact hgo
    · have hpw : ¬ pz = wz := fun z => hf (Or.inl z)
      have hfr : spFr A (nI pz) = false := by
        cases h : spFr A (nI pz) with
        | false => rfl
        | true => exact absurd (Or.inr h) hf
      obtain ⟨σ2, w7, g1, g2⟩ := ih (pz + 1) o σ1 qz w6 (by omega) hok hC hD hq hWq hR
      have hop : op = o := by rw [← hO, if_neg (fun z => hf z.1)]
      rw [hop]
      refine ⟨σ2, w7, ?_, g2⟩
      rw [← g1, e68_42]
      simp (disch := omega) only [e68_44, e68_46, e68_49, e68_51, e68_52, e68_55, e68_58, e68_59, e68_60, e68_63, e68_64, e68_67, e68_69, e68_72, e68_75, e68_76, e68_79, e68_80, e68_82, e68_85, e68_86, e68_89, e68_90, e68_93, e68_95, e68_97, e68_99, e68_102, e68_104, e68_105, e68_107, e68_109, e68_112, ↓reduceIte, inb_n, ix_n, if_true, ne_eq, Nat.reduceEqDiff, not_false_eq_true, clK_s, tl_s, tl_n, clr_i, clr_n, clr_a, nI_add, nI_leI, h1, gX_2, gT_0 t36, gT_1 t36, gT_2 t36, gT_3 t36, gT_4 t36, gT_5 t36, gT_6 t36, gT_7 t36, gT_8 t36, gT_9 t36, gT_10 t36, gT_11 t36, gT_12 t36, gT_13 t36, gT_14 t36, gT_15 t36, gT_16 t36, gT_17 t36, pT_10 t36, pT_11 t36, pT_12 t36, pT_13 t36, pT_14 t36, pT_15 t36, pT_16 t36, pT_17 t36, aT_1 t36, aT_2 t36, aT_3 t36, aT_4 t36, aT_5 t36, aT_6 t36, aT_7 t36, aT_8 t36, aT_9 t36, sT_1 t36, sT_2 t36, sT_3 t36, sT_4 t36, sT_5 t36, sT_6 t36, sT_7 t36, sT_8 t36, sT_9 t36, vT t36, q1, nI_lt2, hpw, c_isFree t36 hC h8 hp20, hfr, bI_0, Bool.true_eq_false, Bool.false_eq_true, not_true_eq_false, not_false_eq_true, if_false, reduceCtorEq]
theorem k_seat_l {oz wz : Nat} {yv : Int32} (hW : WFp A) (hX : WFx A) (ho : oz < tN A) (hw : tF A oz 1 = nI wz) (hw2 : wz < 20) : ∀ r pz (o : Option (Nat × Nat)) (σ1 : Nat → Nat → Int32) (w7 : Option Value), pz + r = 20 → okO o → MR (σ1 94) A →
    ∃ σ2 w8, Rn E (d + 6) 156 37 [some (.ref 93), some (.int (nI oz)), some (.int yv), some (.int (nI wz)), some (.int (oI (o1 o))), some (.int (oI (o2 o))), some (.int (nI pz)), w7] [] (shp, σ1) = Rn E (d + 6) 156 122 [some (.ref 93), some (.int (nI oz)), some (.int yv), some (.int (nI wz)), some (.int (oI (o1 (seF A oz wz r pz o)))), some (.int (oI (o2 (seF A oz wz r pz o)))), some (.int (nI 20)), w8] [] (shp, σ2) ∧ Fr [94, 108, 109] σ1 σ2 ∧ MR (σ2 94) A := by
  have h8 := hW.1
  intro r
  induction r with
  | zero =>
    intro pz o σ1 w7 hp hok hM
    have h1 : 20 ≤ pz := by omega
    have h2 : pz = 20 := by omega
    refine ⟨σ1, w7, ?_, Fr.rf, hM⟩
    rw [e156_37]
    simp (disch := omega) only [e156_39, e156_41, ↓reduceIte, gM_0, a_94, inb_n, ix_n, if_true, ne_eq, Nat.reduceEqDiff, not_false_eq_true, vM, clK_s, tl_s, tl_n, clr_i, clr_n, clr_a, nI_add, nI_leI, h1, seF]
    rw [h2]
  | succ r ih =>
    intro pz o σ1 w7 hp hok hM
    have h1 : ¬ 20 ≤ pz := by omega
    have hp20 : pz < 20 := by omega
    unfold seF
    generalize hO : (if (pz = wz ∨ spFr A (nI pz) = true) ∧ seB o (seV A oz pz) = true then some (pz, seV A oz pz) else o) = op
    by_cases hf : pz = wz ∨ spFr A (nI pz) = true
    · have hWx := WFp_st hW ho hp20 hw hf
      have hM2 : MR (su σ1 94 (10 + 5 * oz + 1) (nI pz) 94) (tnF A oz 1 (nI pz)) := by rw [su_rf]; exact MR_f hM h8 ho (by omega)
      obtain ⟨σ2, a1, a2⟩ := k_eyesOf (E := E) (d := d) hM2 hWx hX ho
      have e94 := a2 94 (by decide)
      have hM3 : MR (σ2 94) (tnF A oz 1 (nI pz)) := by rw [e94]; exact hM2
      have hM4 : MR (su σ2 94 (10 + 5 * oz + 1) (nI wz) 94) A := by
        rw [su_rf]
        have := MR_f (kz := oz) (jz := 1) (xv := nI wz) hM3 h8 ho (by omega)
        rw [tnF_tnF, ← hw, tnF_id] at this
        rw [← hw]
        exact this
      have fr4 : Fr [94, 108, 109] σ1 (su σ2 94 (10 + 5 * oz + 1) (nI wz)) := (((Fr.rf.su (by decide)).tr (a2.mono (by decide)))).su (by decide)
      have hv8 : seV A oz pz ≤ 8 := spCn_le hWx
      have hmany : ∀ S : aSt, Rn E (d + 5) 133 0 [some (.int (spEy (tnF A oz 1 (nI pz)) oz)), none, none] [] S = some (some (.int (nI (seV A oz pz))), S) := fun S => k_manyE hWx
      have hnew : okO (some (pz, seV A oz pz)) := fun x hx => by cases hx; exact ⟨hp20, hv8⟩
      have hdone : ∀ (o3 : Option (Nat × Nat)) (w7' : Option Value), okO o3 → (∃ σ3 w8, Rn E (d + 6) 156 37 [some (.ref 93), some (.int (nI oz)), some (.int yv), some (.int (nI wz)), some (.int (oI (o1 o3))), some (.int (oI (o2 o3))), some (.int (nI (pz + 1))), w7'] [] (shp, su σ2 94 (10 + 5 * oz + 1) (nI wz)) = Rn E (d + 6) 156 122 [some (.ref 93), some (.int (nI oz)), some (.int yv), some (.int (nI wz)), some (.int (oI (o1 (seF A oz wz r (pz + 1) o3)))), some (.int (oI (o2 (seF A oz wz r (pz + 1) o3)))), some (.int (nI 20)), w8] [] (shp, σ3) ∧ Fr [94, 108, 109] σ1 σ3 ∧ MR (σ3 94) A) := by
        intro o3 w7' h3
        obtain ⟨σ3, w8, g1, g2, g3⟩ := ih (pz + 1) o3 (su σ2 94 (10 + 5 * oz + 1) (nI wz)) w7' (by omega) h3 hM4
        exact ⟨σ3, w8, g1, fr4.tr g2, g3⟩
      have hgo : ∃ σ3 w8, Rn E (d + 6) 156 59 [some (.ref 93), some (.int (nI oz)), some (.int yv), some (.int (nI wz)), some (.int (oI (o1 o))), some (.int (oI (o2 o))), some (.int (nI pz)), w7] [] (shp, σ1) = Rn E (d + 6) 156 122 [some (.ref 93), some (.int (nI oz)), some (.int yv), some (.int (nI wz)), some (.int (oI (o1 (seF A oz wz r (pz + 1) op)))), some (.int (oI (o2 (seF A oz wz r (pz + 1) op)))), some (.int (nI 20)), w8] [] (shp, σ3) ∧ Fr [94, 108, 109] σ1 σ3 ∧ MR (σ3 94) A := by
        simp (disch := omega) only [e156_59, e156_60, e156_61, e156_62, e156_64, e156_67, e156_68, e156_69, e156_72, e156_75, e156_77, e156_78, e156_79, e156_80, e156_81, e156_84, e156_86, ↓reduceIte, gM_0, a_94, inb_n, ix_n, if_true, ne_eq, Nat.reduceEqDiff, not_false_eq_true, vM, clK_s, tl_s, tl_n, clr_i, clr_n, clr_a, nI_add, k_sets, a1, hmany]
        rw [e156_88]
        simp only [st_le hok hv8]
        cases hb : seB o (seV A oz pz) with
        | true =>
          have hop : op = some (pz, seV A oz pz) := by rw [← hO, if_pos ⟨hf, hb⟩]
          rw [hop]
          simp only [Bool.true_eq_false, if_false, e156_91, e156_93, e156_96, e156_98, e156_100, e156_102, e156_104, e156_107, e156_109, e156_112, e156_114, e156_116, e156_119, ↓reduceIte, gM_0, a_94, inb_n, ix_n, if_true, ne_eq, Nat.reduceEqDiff, not_false_eq_true, vM, clK_s, tl_s, tl_n, clr_i, clr_n, clr_a, nI_add, st_le hok hv8, hb]
          exact hdone (some (pz, seV A oz pz)) _ hnew
        | false =>
          have hop : op = o := by rw [← hO, if_neg (fun z => by rw [hb] at z; exact absurd z.2 (by decide))]
          rw [hop]
          simp only [if_true, e156_91, e156_93, e156_96, e156_98, e156_100, e156_102, e156_104, e156_107, e156_109, e156_112, e156_114, e156_116, e156_119, ↓reduceIte, gM_0, a_94, inb_n, ix_n, if_true, ne_eq, Nat.reduceEqDiff, not_false_eq_true, vM, clK_s, tl_s, tl_n, clr_i, clr_n, clr_a, nI_add, st_le hok hv8, hb]
          exact hdone o _ hok
      conv in Rn E (d + 6) 156 37 _ _ (shp, σ1) => rw [e156_37]
      by_cases hpw : pz = wz
      · have e1 : nI pz = nI wz := by rw [hpw]
        simp (disch := omega) only [e156_39, e156_41, e156_44, e156_46, ↓reduceIte, gM_0, a_94, inb_n, ix_n, if_true, ne_eq, Nat.reduceEqDiff, not_false_eq_true, vM, clK_s, tl_s, tl_n, clr_i, clr_n, clr_a, nI_add, nI_leI, h1]
        rw [e156_47, if_pos e1]
        exact hgo
      · have hne : ¬ nI pz = nI wz := fun z => hpw ((nI_eq (by omega) (by omega)).mp z)
        have hfr : spFr A (nI pz) = true := by
          rcases hf with h | h
          · exact absurd h hpw
          · exact h
        simp (disch := omega) only [e156_39, e156_41, e156_44, e156_46, e156_47, e156_50, e156_51, e156_53, e156_56, ↓reduceIte, gM_0, a_94, inb_n, ix_n, if_true, ne_eq, Nat.reduceEqDiff, not_false_eq_true, vM, clK_s, tl_s, tl_n, clr_i, clr_n, clr_a, nI_add, nI_leI, h1, hne, k_isFree hM h8, hfr, bI_0, Bool.true_eq_false, Bool.false_eq_true, not_true_eq_false, not_false_eq_true, if_false, reduceCtorEq]
        exact hgo
    · have hpw : ¬ pz = wz := fun z => hf (Or.inl z)
      have hfr : spFr A (nI pz) = false := by
        cases h : spFr A (nI pz) with
        | false => rfl
        | true => exact absurd (Or.inr h) hf
      obtain ⟨σ2, w8, g1, g2⟩ := ih (pz + 1) o σ1 w7 (by omega) hok hM
      have hop : op = o := by rw [← hO, if_neg (fun z => hf z.1)]
      rw [hop]
      refine ⟨σ2, w8, ?_, g2⟩
      rw [← g1, e156_37]
      simp (disch := omega) only [e156_39, e156_41, e156_44, e156_46, e156_47, e156_50, e156_51, e156_53, e156_56, e156_59, e156_60, e156_61, e156_62, e156_64, e156_67, e156_68, e156_69, e156_72, e156_75, e156_77, e156_78, e156_79, e156_80, e156_81, e156_84, e156_86, e156_88, e156_91, e156_93, e156_96, e156_98, e156_100, e156_102, e156_104, e156_107, e156_109, e156_112, e156_114, e156_116, e156_119, ↓reduceIte, gM_0, a_94, inb_n, ix_n, if_true, ne_eq, Nat.reduceEqDiff, not_false_eq_true, vM, clK_s, tl_s, tl_n, clr_i, clr_n, clr_a, nI_add, nI_leI, h1, nI_lt2, hpw, k_isFree hM h8, hfr, bI_0, Bool.true_eq_false, Bool.false_eq_true, not_true_eq_false, not_false_eq_true, if_false, reduceCtorEq]
theorem op_seat {xv yv : Int32} (hI : INV σ A B im) : OK2 σ (Rn E (d + 50) 68 0 [some (.ref 0), some (.int xv), some (.int yv), none, none, none, none] []) (Rn E (d + 50) 156 0 [some (.ref 93), some (.int xv), some (.int yv), none, none, none, none, none] []) := by
  obtain ⟨⟨hC, hM, hW, hX, hc, hR⟩, _⟩ := id hI
  have h8 := hW.1
  cases ho : hasB A xv with
  | false =>
    refine ok_read (vv := (-1000000001)) hI ?_ ?_
    · simp (disch := omega) only [e68_0, e68_1, e68_4, e68_5, e68_8, e68_11, e68_12, e68_13, e68_14, e68_17, e68_20, e68_22, ↓reduceIte, inb_n, ix_n, if_true, ne_eq, Nat.reduceEqDiff, not_false_eq_true, clK_s, tl_s, tl_n, clr_i, clr_n, clr_a, nI_add, gX_2, gT_0 t36, gT_1 t36, gT_2 t36, gT_3 t36, gT_4 t36, gT_5 t36, gT_6 t36, gT_7 t36, gT_8 t36, gT_9 t36, gT_10 t36, gT_11 t36, gT_12 t36, gT_13 t36, gT_14 t36, gT_15 t36, gT_16 t36, gT_17 t36, pT_10 t36, pT_11 t36, pT_12 t36, pT_13 t36, pT_14 t36, pT_15 t36, pT_16 t36, pT_17 t36, aT_1 t36, aT_2 t36, aT_3 t36, aT_4 t36, aT_5 t36, aT_6 t36, aT_7 t36, aT_8 t36, aT_9 t36, sT_1 t36, sT_2 t36, sT_3 t36, sT_4 t36, sT_5 t36, sT_6 t36, sT_7 t36, sT_8 t36, sT_9 t36, vT t36, c_has t36 hC h8, ho, bI_0, Bool.true_eq_false, Bool.false_eq_true, not_true_eq_false, not_false_eq_true, if_false, reduceCtorEq]
    · simp (disch := omega) only [e156_0, e156_1, e156_2, e156_5, e156_8, e156_9, e156_10, e156_11, e156_12, e156_15, e156_18, e156_20, ↓reduceIte, gM_0, a_94, inb_n, ix_n, if_true, ne_eq, Nat.reduceEqDiff, not_false_eq_true, vM, clK_s, tl_s, tl_n, clr_i, clr_n, clr_a, nI_add, k_isOne hM h8, ho, bI_0, Bool.true_eq_false, Bool.false_eq_true, not_true_eq_false, not_false_eq_true, if_false, reduceCtorEq]
  | true =>
    obtain ⟨kz, hk, rfl⟩ := hasB_ex ho
    cases hb : rg 0 1 yv with
    | false =>
      refine ok_read (vv := (-1000000001)) hI ?_ ?_
      · simp (disch := omega) only [e68_0, e68_1, e68_4, e68_5, e68_8, e68_11, e68_12, e68_13, e68_14, e68_17, e68_20, e68_22, ↓reduceIte, inb_n, ix_n, if_true, ne_eq, Nat.reduceEqDiff, not_false_eq_true, clK_s, tl_s, tl_n, clr_i, clr_n, clr_a, nI_add, gX_2, gT_0 t36, gT_1 t36, gT_2 t36, gT_3 t36, gT_4 t36, gT_5 t36, gT_6 t36, gT_7 t36, gT_8 t36, gT_9 t36, gT_10 t36, gT_11 t36, gT_12 t36, gT_13 t36, gT_14 t36, gT_15 t36, gT_16 t36, gT_17 t36, pT_10 t36, pT_11 t36, pT_12 t36, pT_13 t36, pT_14 t36, pT_15 t36, pT_16 t36, pT_17 t36, aT_1 t36, aT_2 t36, aT_3 t36, aT_4 t36, aT_5 t36, aT_6 t36, aT_7 t36, aT_8 t36, aT_9 t36, sT_1 t36, sT_2 t36, sT_3 t36, sT_4 t36, sT_5 t36, sT_6 t36, sT_7 t36, sT_8 t36, sT_9 t36, vT t36, c_has t36 hC h8, ho, c_isWithin, tI_0, tI_1, tI_2, tI_3, tI_4, tI_5, tI_6, tI_7, tI_8, tI_19, tI_20, tI_23, tI_24, tI_29, tI_30, tI_48, tI_50, tI_57, tI_60, tI_97, tI_100, tI_122, tI_200, tI_99999, tI_m1, tI_m99999, hb, bI_0, Bool.true_eq_false, Bool.false_eq_true, not_true_eq_false, not_false_eq_true, if_false, reduceCtorEq]
      · simp (disch := omega) only [e156_0, e156_1, e156_2, e156_5, e156_8, e156_9, e156_10, e156_11, e156_12, e156_15, e156_18, e156_20, ↓reduceIte, gM_0, a_94, inb_n, ix_n, if_true, ne_eq, Nat.reduceEqDiff, not_false_eq_true, vM, clK_s, tl_s, tl_n, clr_i, clr_n, clr_a, nI_add, k_isOne hM h8, ho, k_in, rgL_c, tL_0, tL_1, tL_2, tL_3, tL_4, tL_5, tL_6, tL_7, tL_8, tL_19, tL_30, tL_48, tL_50, tL_57, tL_60, tL_97, tL_100, tL_122, tL_200, tL_99999, tL_m1, tL_m99999, hb, bI_0, Bool.true_eq_false, Bool.false_eq_true, not_true_eq_false, not_false_eq_true, if_false, reduceCtorEq]
    | true =>
      obtain ⟨wz, hw2, ew⟩ := (hW.2.1 kz hk).1
      obtain ⟨σ1, a1, a2, a3⟩ := c_takes (E := E) (d := d + 48) t56 t36 (by decide) hC h8
      have hC1 : CR σ1 36 A := hC.ext (fun a h1 h2 _ => a2 a (by omega) (by omega))
      have hR1 := hR.ft hX.1 (by omega) a2
      have hok0 : okO none := fun x hx => by cases hx
      have hsame : tnF A kz 1 (nI wz) = A := by rw [← ew, tnF_id]
      obtain ⟨σ2, w7, b1, b2⟩ := c_seat_l (E := E) (d := d + 44) (yv := yv) hW hX hk ew hw2 20 0 none σ1 wz none (by omega) hok0 hC1 (by rw [hsame]; exact a3) hw2 (by rw [hsame]; exact hW) hR1
      have ft := a2.tr b2
      have e94 : σ2 94 = σ 94 := ft 94 (by omega) (by omega)
      have hM2 : MR (σ2 94) A := by rw [e94]; exact hM
      have hC2 : CR σ2 36 A := hC.ext (fun a h1 h2 _ => ft a (by omega) (by omega))
      have f1 : σ2 94 (10 + 5 * kz + 1) = nI wz := by rw [hM2.2.1 kz hk 1 (by omega), ew]
      obtain ⟨σ3, w8, g1, g2, g3⟩ := k_seat_l (E := E) (d := d + 44) (yv := yv) hW hX hk ew hw2 20 0 none σ2 none (by omega) hok0 hM2
      refine ⟨if yv = nI 0 then oI (o1 (seF A kz wz 20 0 none)) else oI (o2 (seF A kz wz 20 0 none)), σ2, σ3, A, B, im, ?_, ?_, hI.same ((QT.f56 ft).tr (QT.fr (g2.mono (by decide)))) (hC2.ext (fun a h1 h2 _ => g2 a (by simp; omega))) g3⟩
      · simp (disch := omega) only [e68_0, e68_1, e68_4, e68_5, e68_8, e68_11, e68_12, e68_13, e68_14, e68_17, e68_20, e68_22, e68_23, e68_24, e68_25, e68_26, e68_28, e68_29, e68_32, e68_33, e68_36, e68_39, e68_40, ↓reduceIte, inb_n, ix_n, if_true, ne_eq, Nat.reduceEqDiff, not_false_eq_true, clK_s, tl_s, tl_n, clr_i, clr_n, clr_a, nI_add, gX_2, gX_4, gT_0 t36, gT_1 t36, gT_2 t36, gT_3 t36, gT_4 t36, gT_5 t36, gT_6 t36, gT_7 t36, gT_8 t36, gT_9 t36, gT_10 t36, gT_11 t36, gT_12 t36, gT_13 t36, gT_14 t36, gT_15 t36, gT_16 t36, gT_17 t36, pT_10 t36, pT_11 t36, pT_12 t36, pT_13 t36, pT_14 t36, pT_15 t36, pT_16 t36, pT_17 t36, aT_1 t36, aT_2 t36, aT_3 t36, aT_4 t36, aT_5 t36, aT_6 t36, aT_7 t36, aT_8 t36, aT_9 t36, sT_1 t36, sT_2 t36, sT_3 t36, sT_4 t36, sT_5 t36, sT_6 t36, sT_7 t36, sT_8 t36, sT_9 t36, vT t36, c_has t36 hC h8, ho, c_isWithin, tI_0, tI_1, tI_2, tI_3, tI_4, tI_5, tI_6, tI_7, tI_8, tI_19, tI_20, tI_23, tI_24, tI_29, tI_30, tI_48, tI_50, tI_57, tI_60, tI_97, tI_100, tI_122, tI_200, tI_99999, tI_m1, tI_m99999, hb, bI_0, Bool.true_eq_false, Bool.false_eq_true, not_true_eq_false, not_false_eq_true, if_false, reduceCtorEq, vT t56, a1]
        refine Eq.trans b1 ?_
        simp only [e68_115, e68_116, e68_119, e68_120, e68_123, e68_125]
        by_cases hz : yv = nI 0 <;> simp [hz]
      · simp (disch := omega) only [e156_0, e156_1, e156_2, e156_5, e156_8, e156_9, e156_10, e156_11, e156_12, e156_15, e156_18, e156_20, e156_21, e156_22, e156_23, e156_24, e156_27, e156_28, e156_29, e156_31, e156_32, e156_34, e156_35, ↓reduceIte, gM_0, a_94, inb_n, ix_n, if_true, ne_eq, Nat.reduceEqDiff, not_false_eq_true, vM, clK_s, tl_s, tl_n, clr_i, clr_n, clr_a, nI_add, k_isOne hM2 h8, ho, k_in, rgL_c, tL_0, tL_1, tL_2, tL_3, tL_4, tL_5, tL_6, tL_7, tL_8, tL_19, tL_30, tL_48, tL_50, tL_57, tL_60, tL_97, tL_100, tL_122, tL_200, tL_99999, tL_m1, tL_m99999, hb, bI_0, Bool.true_eq_false, Bool.false_eq_true, not_true_eq_false, not_false_eq_true, if_false, reduceCtorEq, k_of, f1]
        refine Eq.trans g1 ?_
        simp only [e156_122, e156_123, e156_126, e156_128, e156_131, e156_133]
        by_cases hz : yv = nI 0 <;> simp [hz]
end Seat
