/-! DAYS, CURTAINS, SEATS -/
def o1 (o : Option (Nat × Nat)) : Option Nat := o.map Prod.fst
def o2 (o : Option (Nat × Nat)) : Option Nat := o.map Prod.snd
theorem o1_n : o1 none = none := rfl
theorem o2_n : o2 none = none := rfl
theorem o1_s {x : Nat × Nat} : o1 (some x) = some x.1 := rfl
theorem o2_s {x : Nat × Nat} : o2 (some x) = some x.2 := rfl
theorem oM_n : oM none = (-1000000005) := rfl
theorem oM_s {kz : Nat} : oM (some kz) = nI kz := rfl
theorem oI_nn : oI none = (-1) := rfl
theorem oI_s {kz : Nat} : oI (some kz) = nI kz := rfl
def scX (A : Tn) (pz : Nat) : Tn := tnC A 50 (tC A 50 ^^^ nI 1 <<< (nI pz &&& 31))
def cuV (A : Tn) (oz pz : Nat) : Nat := spCn (scX A pz) oz
def cuB (o : Option (Nat × Nat)) (vz : Nat) : Bool := match o with
  | none => true
  | some x => decide (vz < x.2)
def cuF (A : Tn) (oz : Nat) : Nat → Nat → Option (Nat × Nat) → Option (Nat × Nat)
  | 0, _, o => o
  | r + 1, pz, o => cuF A oz r (pz + 1) (if spFr A (nI pz) = true ∧ cuB o (cuV A oz pz) = true then some (pz, cuV A oz pz) else o)
def okO (o : Option (Nat × Nat)) : Prop := ∀ x, o = some x → x.1 < 20 ∧ x.2 ≤ 8
theorem tnF_tnF {A : Tn} {kz j : Nat} {av bv : Int32} : tnF (tnF A kz j av) kz j bv = tnF A kz j bv := by
  have : (fun a b => if a = kz ∧ b = j then bv else if a = kz ∧ b = j then av else tF A a b) = (fun a b => if a = kz ∧ b = j then bv else tF A a b) := by
    funext a b; split <;> rfl
  show (tN A, (fun a b => if a = kz ∧ b = j then bv else if a = kz ∧ b = j then av else tF A a b), tC A, tX A) = _
  rw [this]; rfl
theorem tnF_id {A : Tn} {kz j : Nat} : tnF A kz j (tF A kz j) = A := by
  have : (fun a b => if a = kz ∧ b = j then tF A kz j else tF A a b) = tF A := by
    funext a b; split
    · rename_i h; rw [h.1, h.2]
    · rfl
  show (tN A, (fun a b => if a = kz ∧ b = j then tF A kz j else tF A a b), tC A, tX A) = _
  rw [this]; rfl
theorem xx_id {xv yv : Int32} : xv ^^^ yv ^^^ yv = xv := by rw [Int32.xor_assoc, Int32.xor_self, Int32.xor_zero]
theorem none_ne {kz : Nat} (hk : kz < 2 ^ 31) : ¬ nI kz = (-1000000005) := by
  intro z
  have := congrArg Int32.toInt z
  rw [nI_toInt hk, show (-1000000005 : Int32).toInt = -1000000005 from by decide +kernel] at this
  omega
theorem spCn_le {A : Tn} {oz : Nat} (hW : WFp A) : spCn A oz ≤ 8 := Nat.le_trans cn_le hW.1
section Cur
variable {E : aE} {d : Nat} {σ : Nat → Nat → Int32} {A B : Tn} {im : Bool}
theorem WFp_fr {pz : Nat} (hW : WFp A) (hp : pz < 20) (hf : spFr A (nI pz) = true) : WFp (scX A pz) := WFp_sc hW hp (fun _ => (spFr_iff.mp hf).1)
theorem op_days {xv : Int32} (hI : INV σ A B im) : OK2 σ (Rn E (d + 50) 65 0 [some (.ref 0), some (.int xv), none] []) (Rn E (d + 50) 150 0 [some (.ref 93), some (.int xv), none, none] []) := by
  obtain ⟨⟨hC, hM, hW, hX, hc, hR⟩, _⟩ := id hI
  have h8 := hW.1
  cases hb : rg 1 100 xv with
  | false =>
    refine ok_read (vv := (-1000000001)) hI ?_ ?_
    · simp (disch := omega) only [e65_0, e65_1, e65_2, e65_4, e65_7, e65_10, e65_12, e65_13, e65_14, e65_17, e65_20, e65_21, e65_22, e65_25, e65_26, e65_29, e65_30, e65_33, e65_36, e65_37, e65_40, e65_43, e65_44, e65_47, e65_50, e65_51, e65_52, ↓reduceIte, inb_n, ix_n, if_true, ne_eq, Nat.reduceEqDiff, not_false_eq_true, clK_s, tl_s, tl_n, clr_i, clr_n, clr_a, nI_add, c_isWithin, tI_0, tI_1, tI_2, tI_3, tI_4, tI_5, tI_6, tI_7, tI_8, tI_19, tI_20, tI_23, tI_24, tI_29, tI_30, tI_48, tI_50, tI_57, tI_60, tI_97, tI_100, tI_122, tI_200, tI_99999, tI_m1, tI_m99999, hb, bI_0, Bool.true_eq_false, Bool.false_eq_true, not_true_eq_false, not_false_eq_true, if_false, reduceCtorEq]
    · simp (disch := omega) only [e150_0, e150_1, e150_2, e150_3, e150_6, e150_9, e150_12, e150_14, e150_15, e150_16, e150_19, e150_20, e150_21, e150_22, e150_25, e150_26, e150_29, e150_30, e150_31, e150_32, e150_33, e150_34, e150_35, e150_36, e150_39, e150_40, e150_43, e150_44, e150_47, e150_48, e150_51, e150_52, e150_53, e150_54, e150_55, ↓reduceIte, gM_0, a_94, inb_n, ix_n, if_true, ne_eq, Nat.reduceEqDiff, not_false_eq_true, vM, clK_s, tl_s, tl_n, clr_i, clr_n, clr_a, nI_add, k_in, rgL_c, tL_0, tL_1, tL_2, tL_3, tL_4, tL_5, tL_6, tL_7, tL_8, tL_19, tL_30, tL_48, tL_50, tL_57, tL_60, tL_97, tL_100, tL_122, tL_200, tL_99999, tL_m1, tL_m99999, hb, bI_0, Bool.true_eq_false, Bool.false_eq_true, not_true_eq_false, not_false_eq_true, if_false, reduceCtorEq]
  | true =>
    have hr := rg_iff.mp hb
    obtain ⟨nz, hn, rfl⟩ := rg_e (n := 100) (xv := xv) rfl (rg_iff.mpr ⟨by omega, hr.2⟩)
    obtain ⟨dz, hd, ed⟩ := hc.1
    have q15 : σ 36 15 = nI dz := by rw [hC.dy, ed]
    have q12 := hC.gl
    have hmin : imin (nI nz) (nI (9999 - dz)) = nI (min nz (9999 - dz)) := by
      unfold imin
      by_cases hq : 9999 - dz < nz
      · rw [if_pos (nI_lt hq (by omega)), Nat.min_eq_right (by omega)]
      · rw [if_neg (nI_nlt (by omega) (by omega)), Nat.min_eq_left (by omega)]
    have hmn : min nz (9999 - dz) < 2 ^ 31 := by omega
    obtain ⟨σ1, a1, a2, a3⟩ := c_live (E := E) (d := d + 44) hmn t36 hC hW hX hR
    have e94 : σ1 94 = σ 94 := a2 94 (by omega) (by omega)
    have hM1 : MR (σ1 94) A := by rw [e94]; exact hM
    obtain ⟨σ2, b1, b2, b3⟩ := k_goesOnMany (E := E) (d := d + 42) hmn hM1 hW hX
    obtain ⟨o1, o2, o3, o4, o5⟩ := days_k (r := min nz (9999 - dz)) hW
    have r12 := a3.gl
    have m3 : σ1 94 3 = tC A 3 := hM1.2.2.1 3 (by omega) (by omega)
    have m2 : σ1 94 2 = nI dz := by rw [hM1.2.2.1 2 (by omega) (by omega), ed]
    have n3 : σ2 94 3 = tC (spDays (min nz (9999 - dz)) A) 3 := b3.2.2.1 3 (by omega) (by omega)
    have hc2 : WFc (spDays (min nz (9999 - dz)) A) := ⟨⟨dz + min nz (9999 - dz), by omega, by rw [o5, ed, nI_add]⟩, by rw [o4 6 (by omega) (by omega)]; exact hc.2⟩
    refine ⟨tC (spDays (min nz (9999 - dz)) A) 3 - tC A 3, σ1, σ2, spDays (min nz (9999 - dz)) A, B, im, ?_, ?_, hI.q ((QT.f36 a2).tr (QT.fr (b2.mono (by decide)))) (a3.ext (fun a h1 h2 _ => b2 a (by simp; omega))) b3 o1 hc2 o3⟩
    · simp (disch := omega) only [e65_0, e65_1, e65_2, e65_4, e65_7, e65_10, e65_12, e65_13, e65_14, e65_17, e65_20, e65_21, e65_22, e65_25, e65_26, e65_29, e65_30, e65_33, e65_36, e65_37, e65_40, e65_43, e65_44, e65_47, e65_50, e65_51, e65_52, ↓reduceIte, inb_n, ix_n, if_true, ne_eq, Nat.reduceEqDiff, not_false_eq_true, clK_s, tl_s, tl_n, clr_i, clr_n, clr_a, nI_add, c_isWithin, tI_0, tI_1, tI_2, tI_3, tI_4, tI_5, tI_6, tI_7, tI_8, tI_19, tI_20, tI_23, tI_24, tI_29, tI_30, tI_48, tI_50, tI_57, tI_60, tI_97, tI_100, tI_122, tI_200, tI_99999, tI_m1, tI_m99999, hb, bI_0, Bool.true_eq_false, Bool.false_eq_true, not_true_eq_false, not_false_eq_true, if_false, reduceCtorEq, gX_2, gT_0 t36, gT_1 t36, gT_2 t36, gT_3 t36, gT_4 t36, gT_5 t36, gT_6 t36, gT_7 t36, gT_8 t36, gT_9 t36, gT_10 t36, gT_11 t36, gT_12 t36, gT_13 t36, gT_14 t36, gT_15 t36, gT_16 t36, gT_17 t36, pT_10 t36, pT_11 t36, pT_12 t36, pT_13 t36, pT_14 t36, pT_15 t36, pT_16 t36, pT_17 t36, aT_1 t36, aT_2 t36, aT_3 t36, aT_4 t36, aT_5 t36, aT_6 t36, aT_7 t36, aT_8 t36, aT_9 t36, sT_1 t36, sT_2 t36, sT_3 t36, sT_4 t36, sT_5 t36, sT_6 t36, sT_7 t36, sT_8 t36, sT_9 t36, vT t36, q12, q15, pk_sub, hmin, a1, r12]
    · by_cases hq : 9999 - dz ≤ nz
      · have he : min nz (9999 - dz) = 9999 - dz := by omega
        rw [he] at b1 n3 ⊢
        simp (disch := omega) only [e150_0, e150_1, e150_2, e150_3, e150_6, e150_9, e150_12, e150_14, e150_15, e150_16, e150_19, e150_20, e150_21, e150_22, e150_25, e150_26, e150_29, e150_30, e150_31, e150_32, e150_33, e150_34, e150_35, e150_36, e150_39, e150_40, e150_43, e150_44, e150_47, e150_48, e150_51, e150_52, e150_53, e150_54, e150_55, ↓reduceIte, gM_0, a_94, inb_n, ix_n, if_true, ne_eq, Nat.reduceEqDiff, not_false_eq_true, vM, clK_s, tl_s, tl_n, clr_i, clr_n, clr_a, nI_add, k_in, rgL_c, tL_0, tL_1, tL_2, tL_3, tL_4, tL_5, tL_6, tL_7, tL_8, tL_19, tL_30, tL_48, tL_50, tL_57, tL_60, tL_97, tL_100, tL_122, tL_200, tL_99999, tL_m1, tL_m99999, hb, bI_0, Bool.true_eq_false, Bool.false_eq_true, not_true_eq_false, not_false_eq_true, if_false, reduceCtorEq, m3, m2, pk_sub, nI_leI, hq, b1, n3]
      · have he : min nz (9999 - dz) = nz := by omega
        rw [he] at b1 n3 ⊢
        simp (disch := omega) only [e150_0, e150_1, e150_2, e150_3, e150_6, e150_9, e150_12, e150_14, e150_15, e150_16, e150_19, e150_20, e150_21, e150_22, e150_25, e150_26, e150_29, e150_30, e150_31, e150_32, e150_33, e150_34, e150_35, e150_36, e150_39, e150_40, e150_43, e150_44, e150_47, e150_48, e150_51, e150_52, e150_53, e150_54, e150_55, ↓reduceIte, gM_0, a_94, inb_n, ix_n, if_true, ne_eq, Nat.reduceEqDiff, not_false_eq_true, vM, clK_s, tl_s, tl_n, clr_i, clr_n, clr_a, nI_add, k_in, rgL_c, tL_0, tL_1, tL_2, tL_3, tL_4, tL_5, tL_6, tL_7, tL_8, tL_19, tL_30, tL_48, tL_50, tL_57, tL_60, tL_97, tL_100, tL_122, tL_200, tL_99999, tL_m1, tL_m99999, hb, bI_0, Bool.true_eq_false, Bool.false_eq_true, not_true_eq_false, not_false_eq_true, if_false, reduceCtorEq, m3, m2, pk_sub, nI_leI, hq, b1, n3]
theorem c_cur_l {oz : Nat} {yv : Int32} (hW : WFp A) (hX : WFx A) (ho : oz < tN A) : ∀ r pz (o : Option (Nat × Nat)) (σ1 : Nat → Nat → Int32) (zv : Int32) (w6 : Option Value), pz + r = 20 → okO o → CR σ1 36 A → CR σ1 56 (tnC A 50 zv) → TR σ1 (tX A) →
    ∃ σ2 w7, Rn E (d + 6) 67 44 [some (.ref 0), some (.int (nI oz)), some (.int yv), some (.int (oM (o1 o))), some (.int (oM (o2 o))), some (.int (nI pz)), w6] [] (shp, σ1) = Rn E (d + 6) 67 118 [some (.ref 0), some (.int (nI oz)), some (.int yv), some (.int (oM (o1 (cuF A oz r pz o)))), some (.int (oM (o2 (cuF A oz r pz o)))), some (.int (nI 20)), w7] [] (shp, σ2) ∧ FT 56 σ1 σ2 := by
  have h8 := hW.1
  intro r
  induction r with
  | zero =>
    intro pz o σ1 zv w6 hp hok hC hD hR
    have h1 : 20 ≤ pz := by omega
    have h2 : pz = 20 := by omega
    refine ⟨σ1, w6, ?_, FT.rf⟩
    rw [e67_44]
    simp (disch := omega) only [e67_46, e67_48, ↓reduceIte, inb_n, ix_n, if_true, ne_eq, Nat.reduceEqDiff, not_false_eq_true, clK_s, tl_s, tl_n, clr_i, clr_n, clr_a, nI_add, nI_leI, h1, cuF]
    rw [h2]
  | succ r ih =>
    intro pz o σ1 zv w6 hp hok hC hD hR
    have h1 : ¬ 20 ≤ pz := by omega
    have hp20 : pz < 20 := by omega
    unfold cuF
    cases hf : spFr A (nI pz) with
    | false =>
      obtain ⟨σ2, w7, g1, g2⟩ := ih (pz + 1) o σ1 zv w6 (by omega) hok hC hD hR
      refine ⟨σ2, w7, ?_, g2⟩
      rw [if_neg (by simp)]
      rw [← g1, e67_44]
      simp (disch := omega) only [e67_46, e67_48, e67_51, e67_52, e67_55, e67_57, e67_60, e67_63, e67_64, e67_67, e67_68, e67_71, e67_74, e67_75, e67_77, e67_78, e67_79, e67_82, e67_83, e67_86, e67_87, e67_90, e67_92, e67_93, e67_95, e67_98, e67_100, e67_102, e67_105, e67_107, e67_108, e67_110, e67_112, e67_115, ↓reduceIte, inb_n, ix_n, if_true, ne_eq, Nat.reduceEqDiff, not_false_eq_true, clK_s, tl_s, tl_n, clr_i, clr_n, clr_a, nI_add, nI_leI, h1, gX_2, gT_0 t36, gT_1 t36, gT_2 t36, gT_3 t36, gT_4 t36, gT_5 t36, gT_6 t36, gT_7 t36, gT_8 t36, gT_9 t36, gT_10 t36, gT_11 t36, gT_12 t36, gT_13 t36, gT_14 t36, gT_15 t36, gT_16 t36, gT_17 t36, pT_10 t36, pT_11 t36, pT_12 t36, pT_13 t36, pT_14 t36, pT_15 t36, pT_16 t36, pT_17 t36, aT_1 t36, aT_2 t36, aT_3 t36, aT_4 t36, aT_5 t36, aT_6 t36, aT_7 t36, aT_8 t36, aT_9 t36, sT_1 t36, sT_2 t36, sT_3 t36, sT_4 t36, sT_5 t36, sT_6 t36, sT_7 t36, sT_8 t36, sT_9 t36, vT t36, c_isFree t36 hC h8 hp20, hf, bI_0, Bool.true_eq_false, Bool.false_eq_true, not_true_eq_false, not_false_eq_true, if_false, reduceCtorEq]
    | true =>
      have hs : scB (tC A 50) (nI pz) = false := (spFr_iff.mp hf).2
      have qs := hC.sc
      have hWx := WFp_fr hW hp20 hf
      have hD2 : CR (su σ1 56 11 (tC A 50 ^^^ nI 1 <<< (nI pz &&& 31))) 56 (scX A pz) := by
        have := CR_c (i := 50) (xv := tC A 50 ^^^ nI 1 <<< (nI pz &&& 31)) hD (by omega)
        rw [tnC_tnC] at this
        exact this
      have ft1 : FT 56 σ1 (su σ1 56 11 (tC A 50 ^^^ nI 1 <<< (nI pz &&& 31))) := FT.rf.pu (by omega) (by omega)
      obtain ⟨σ2, a1, a2, a3⟩ := c_eyesOn (E := E) (d := d) t56 hD2 hX (hR.ft hX.1 (by omega) ft1) hWx ho
      have a1 : Rn E (d + 5) 45 0 [some (.ref 56), some (.int (nI oz))] [] (shp, su σ1 56 11 (tC A 50 ^^^ nI 1 <<< (nI pz &&& 31))) = some (some (.int (nI (cuV A oz pz))), (shp, σ2)) := a1
      have hv8 : cuV A oz pz ≤ 8 := spCn_le hWx
      have ft2 := ft1.tr a2
      have hC2 : CR σ2 36 A := hC.ext (fun a h1 h2 _ => ft2 a (by omega) (by omega))
      have hR2 := hR.ft hX.1 (by omega) ft2
      have hdone : ∀ o3 : Option (Nat × Nat), okO o3 → (∃ σ3 w7, Rn E (d + 6) 67 112 [some (.ref 0), some (.int (nI oz)), some (.int yv), some (.int (oM (o1 o3))), some (.int (oM (o2 o3))), some (.int (nI pz)), some (.int (nI (cuV A oz pz)))] [] (shp, σ2) = Rn E (d + 6) 67 118 [some (.ref 0), some (.int (nI oz)), some (.int yv), some (.int (oM (o1 (cuF A oz r (pz + 1) o3)))), some (.int (oM (o2 (cuF A oz r (pz + 1) o3)))), some (.int (nI 20)), w7] [] (shp, σ3) ∧ FT 56 σ1 σ3) := by
        intro o3 h3
        obtain ⟨σ3, w7, g1, g2⟩ := ih (pz + 1) o3 σ2 (tC A 50 ^^^ nI 1 <<< (nI pz &&& 31)) (some (.int (nI (cuV A oz pz)))) (by omega) h3 hC2 a3 hR2
        refine ⟨σ3, w7, ?_, ft2.tr g2⟩
        rw [← g1]
        simp only [e67_112, e67_115, ↓reduceIte, inb_n, ix_n, if_true, ne_eq, Nat.reduceEqDiff, not_false_eq_true, clK_s, tl_s, tl_n, clr_i, clr_n, clr_a, nI_add]
      have hnew : okO (some (pz, cuV A oz pz)) := fun x hx => by cases hx; exact ⟨hp20, hv8⟩
      conv in Rn E (d + 6) 67 44 _ _ (shp, σ1) => rw [e67_44]
      simp (disch := omega) only [e67_46, e67_48, e67_51, e67_52, e67_55, e67_57, e67_60, e67_63, e67_64, e67_67, e67_68, e67_71, e67_74, e67_75, e67_77, e67_78, e67_79, e67_82, e67_83, e67_86, e67_87, e67_90, e67_92, e67_93, ↓reduceIte, inb_n, ix_n, if_true, ne_eq, Nat.reduceEqDiff, not_false_eq_true, clK_s, tl_s, tl_n, clr_i, clr_n, clr_a, nI_add, nI_leI, h1, gX_2, gT_0 t36, gT_1 t36, gT_2 t36, gT_3 t36, gT_4 t36, gT_5 t36, gT_6 t36, gT_7 t36, gT_8 t36, gT_9 t36, gT_10 t36, gT_11 t36, gT_12 t36, gT_13 t36, gT_14 t36, gT_15 t36, gT_16 t36, gT_17 t36, pT_10 t36, pT_11 t36, pT_12 t36, pT_13 t36, pT_14 t36, pT_15 t36, pT_16 t36, pT_17 t36, aT_1 t36, aT_2 t36, aT_3 t36, aT_4 t36, aT_5 t36, aT_6 t36, aT_7 t36, aT_8 t36, aT_9 t36, sT_1 t36, sT_2 t36, sT_3 t36, sT_4 t36, sT_5 t36, sT_6 t36, sT_7 t36, sT_8 t36, sT_9 t36, vT t36, c_isFree t36 hC h8 hp20, hf, bI_0, Bool.true_eq_false, Bool.false_eq_true, not_true_eq_false, not_false_eq_true, if_false, reduceCtorEq, gX_4, gT_0 t56, gT_1 t56, gT_2 t56, gT_3 t56, gT_4 t56, gT_5 t56, gT_6 t56, gT_7 t56, gT_8 t56, gT_9 t56, gT_10 t56, gT_11 t56, gT_12 t56, gT_13 t56, gT_14 t56, gT_15 t56, gT_16 t56, gT_17 t56, pT_10 t56, pT_11 t56, pT_12 t56, pT_13 t56, pT_14 t56, pT_15 t56, pT_16 t56, pT_17 t56, aT_1 t56, aT_2 t56, aT_3 t56, aT_4 t56, aT_5 t56, aT_6 t56, aT_7 t56, aT_8 t56, aT_9 t56, sT_1 t56, sT_2 t56, sT_3 t56, sT_4 t56, sT_5 t56, sT_6 t56, sT_7 t56, sT_8 t56, sT_9 t56, vT t56, qs, sc_or hp20 hs, a1]
      cases o with
      | none =>
        simp only [o1_n, o2_n, oM_n, e67_95, e67_98, e67_100, e67_102, e67_105, e67_107, e67_108, e67_110, ↓reduceIte, inb_n, ix_n, if_true, ne_eq, Nat.reduceEqDiff, not_false_eq_true, clK_s, tl_s, tl_n, clr_i, clr_n, clr_a, nI_add, cuB, and_self]
        exact hdone (some (pz, cuV A oz pz)) hnew
      | some x =>
        obtain ⟨x1, x2⟩ := hok x rfl
        have z1 : ¬ nI x.1 = (-1000000005) := none_ne (by omega)
        simp only [o1_s, o2_s, oM_s, e67_95, z1, if_false, e67_98, e67_100, e67_102, cuB, true_and, decide_eq_true_eq]
        by_cases hlt : cuV A oz pz < x.2
        · have z2 : ¬ nI x.2 ≤ nI (cuV A oz pz) := nI_ge hlt (by omega)
          simp only [z2, hlt, if_false, if_true, e67_105, e67_107, e67_108, e67_110, ↓reduceIte, inb_n, ix_n, if_true, ne_eq, Nat.reduceEqDiff, not_false_eq_true, clK_s, tl_s, tl_n, clr_i, clr_n, clr_a, nI_add]
          exact hdone (some (pz, cuV A oz pz)) hnew
        · have z2 : nI x.2 ≤ nI (cuV A oz pz) := nI_le (by omega) (by omega)
          simp only [z2, hlt, if_false, if_true]
          exact hdone (some x) hok
theorem k_cur_l {oz : Nat} {yv : Int32} (hW : WFp A) (hX : WFx A) (ho : oz < tN A) : ∀ r pz (o : Option (Nat × Nat)) (lv : Int32) (σ1 : Nat → Nat → Int32) (w6 w7 : Option Value), pz + r = 20 → okO o → (∀ x, o = some x → lv = nI x.2) → MR (σ1 94) A →
    ∃ σ2 w8 w9 l2, Rn E (d + 6) 155 29 [some (.ref 93), some (.int (nI oz)), some (.int yv), some (.int (oI (o1 o))), some (.int lv), some (.int (nI pz)), w6, w7] [] (shp, σ1) = Rn E (d + 6) 155 133 [some (.ref 93), some (.int (nI oz)), some (.int yv), some (.int (oI (o1 (cuF A oz r pz o)))), some (.int l2), some (.int (nI 20)), w8, w9] [] (shp, σ2) ∧ Fr [94, 108, 109] σ1 σ2 ∧ MR (σ2 94) A ∧ okO (cuF A oz r pz o) ∧ ∀ x, cuF A oz r pz o = some x → l2 = nI x.2 := by
  have h8 := hW.1
  intro r
  induction r with
  | zero =>
    intro pz o lv σ1 w6 w7 hp hok hl hM
    have h1 : 20 ≤ pz := by omega
    have h2 : pz = 20 := by omega
    refine ⟨σ1, w6, w7, lv, ?_, Fr.rf, hM, hok, hl⟩
    rw [e155_29]
    simp (disch := omega) only [e155_31, e155_33, ↓reduceIte, gM_0, a_94, inb_n, ix_n, if_true, ne_eq, Nat.reduceEqDiff, not_false_eq_true, vM, clK_s, tl_s, tl_n, clr_i, clr_n, clr_a, nI_add, nI_leI, h1, cuF]
    rw [h2]
  | succ r ih =>
    intro pz o lv σ1 w6 w7 hp hok hl hM
    have h1 : ¬ 20 ≤ pz := by omega
    have hp20 : pz < 20 := by omega
    unfold cuF
    cases hf : spFr A (nI pz) with
    | false =>
      obtain ⟨σ2, w8, w9, l2, g1, g2⟩ := ih (pz + 1) o lv σ1 w6 w7 (by omega) hok hl hM
      rw [if_neg (by simp)]
      refine ⟨σ2, w8, w9, l2, ?_, g2⟩
      rw [← g1, e155_29]
      simp (disch := omega) only [e155_31, e155_33, e155_36, e155_37, e155_39, e155_42, e155_45, e155_46, e155_49, e155_51, e155_52, e155_53, e155_54, e155_56, e155_57, e155_58, e155_59, e155_60, e155_61, e155_64, e155_67, e155_69, e155_70, e155_73, e155_75, e155_76, e155_77, e155_78, e155_80, e155_81, e155_82, e155_83, e155_84, e155_87, e155_89, e155_91, e155_94, e155_95, e155_98, e155_99, e155_101, e155_103, e155_106, e155_108, e155_111, e155_112, e155_113, e155_115, e155_118, e155_120, e155_123, e155_125, e155_127, e155_130, ↓reduceIte, gM_0, a_94, inb_n, ix_n, if_true, ne_eq, Nat.reduceEqDiff, not_false_eq_true, vM, clK_s, tl_s, tl_n, clr_i, clr_n, clr_a, nI_add, nI_leI, h1, k_isFree hM h8, hf, bI_0, Bool.true_eq_false, Bool.false_eq_true, not_true_eq_false, not_false_eq_true, if_false, reduceCtorEq]
    | true =>
      have hWx := WFp_fr hW hp20 hf
      have m50 := hM.2.2.2.1
      have hM2 : MR (su σ1 94 50 (tC A 50 ^^^ nI 1 <<< (nI pz &&& 31)) 94) (scX A pz) := by rw [su_rf]; exact MR_c hM h8 (by omega)
      obtain ⟨σ2, a1, a2⟩ := k_eyesOf (E := E) (d := d) hM2 hWx hX ho
      have e94 := a2 94 (by decide)
      have hM3 : MR (σ2 94) (scX A pz) := by rw [e94]; exact hM2
      have m51 : σ2 94 50 = tC A 50 ^^^ nI 1 <<< (nI pz &&& 31) := hM3.2.2.2.1
      have hM4 : MR (su σ2 94 50 (tC A 50) 94) A := by
        rw [su_rf]
        have := MR_c (iz := 50) (xv := tC A 50) hM3 h8 (by omega)
        rw [scX, tnC_tnC, tnC_id] at this
        exact this
      have fr4 : Fr [94, 108, 109] σ1 (su σ2 94 50 (tC A 50)) := (((Fr.rf.su (by decide)).tr (a2.mono (by decide)))).su (by decide)
      have hv8 : cuV A oz pz ≤ 8 := spCn_le hWx
      have hmany : ∀ S : aSt, Rn E (d + 5) 133 0 [some (.int (spEy (scX A pz) oz)), none, none] [] S = some (some (.int (nI (cuV A oz pz))), S) := fun S => k_manyE hWx
      have hnew : okO (some (pz, cuV A oz pz)) := fun x hx => by cases hx; exact ⟨hp20, hv8⟩
      have hdone : ∀ (o3 : Option (Nat × Nat)) (l3 : Int32) (w6' w7' : Option Value), okO o3 → (∀ x, o3 = some x → l3 = nI x.2) → (∃ σ3 w8 w9 l2, Rn E (d + 6) 155 29 [some (.ref 93), some (.int (nI oz)), some (.int yv), some (.int (oI (o1 o3))), some (.int l3), some (.int (nI (pz + 1))), w6', w7'] [] (shp, su σ2 94 50 (tC A 50)) = Rn E (d + 6) 155 133 [some (.ref 93), some (.int (nI oz)), some (.int yv), some (.int (oI (o1 (cuF A oz r (pz + 1) o3)))), some (.int l2), some (.int (nI 20)), w8, w9] [] (shp, σ3) ∧ Fr [94, 108, 109] σ1 σ3 ∧ MR (σ3 94) A ∧ okO (cuF A oz r (pz + 1) o3) ∧ ∀ x, cuF A oz r (pz + 1) o3 = some x → l2 = nI x.2) := by
        intro o3 l3 w6' w7' h3 h4
        obtain ⟨σ3, w8, w9, l2, g1, g2, g3⟩ := ih (pz + 1) o3 l3 (su σ2 94 50 (tC A 50)) w6' w7' (by omega) h3 h4 hM4
        exact ⟨σ3, w8, w9, l2, g1, fr4.tr g2, g3⟩
      conv in Rn E (d + 6) 155 29 _ _ (shp, σ1) => rw [e155_29]
      simp (disch := omega) only [e155_31, e155_33, e155_36, e155_37, e155_39, e155_42, e155_45, e155_46, e155_49, e155_51, e155_52, e155_53, e155_54, e155_56, e155_57, e155_58, e155_59, e155_60, e155_61, e155_64, e155_67, e155_69, e155_70, e155_73, e155_75, e155_76, e155_77, e155_78, e155_80, e155_81, e155_82, e155_83, ↓reduceIte, gM_0, a_94, inb_n, ix_n, if_true, ne_eq, Nat.reduceEqDiff, not_false_eq_true, vM, clK_s, tl_s, tl_n, clr_i, clr_n, clr_a, nI_add, nI_leI, h1, k_isFree hM h8, hf, bI_0, Bool.true_eq_false, Bool.false_eq_true, not_true_eq_false, not_false_eq_true, if_false, reduceCtorEq, m50, s_94, a1, hmany, m51, xx_id]
      have hlt : ∀ kz, o1 o = some kz → kz < 2 ^ 31 := fun kz hk => by
        cases o with
        | none => cases hk
        | some x =>
          have := (hok x rfl).1
          have : kz = x.1 := (Option.some.inj hk).symm
          omega
      rw [e155_84]
      simp only [oI_neg hlt]
      cases o with
      | none =>
        simp only [o1_n, if_true, e155_94, e155_95, e155_98, e155_99, e155_101, e155_103, e155_106, e155_108, e155_111, e155_112, e155_113, e155_115, e155_118, e155_120, e155_123, e155_125, e155_127, e155_130, ↓reduceIte, gM_0, a_94, inb_n, ix_n, if_true, ne_eq, Nat.reduceEqDiff, not_false_eq_true, vM, clK_s, tl_s, tl_n, clr_i, clr_n, clr_a, nI_add, n10, cuB, and_self, if_false]
        exact hdone (some (pz, cuV A oz pz)) _ _ _ hnew (fun x hx => by cases hx; rfl)
      | some x =>
        obtain ⟨x1, x2⟩ := hok x rfl
        have hlx := hl x rfl
        simp only [o1_s, reduceCtorEq, if_false, e155_87, e155_89, e155_91, cuB, true_and, decide_eq_true_eq, hlx]
        by_cases hq : cuV A oz pz < x.2
        · have z2 : ¬ nI x.2 ≤ nI (cuV A oz pz) := nI_ge hq (by omega)
          simp only [z2, hq, if_false, if_true, e155_94, e155_95, e155_98, e155_99, e155_101, e155_103, e155_106, e155_108, e155_111, e155_112, e155_113, e155_115, e155_118, e155_120, e155_123, e155_125, e155_127, e155_130, ↓reduceIte, gM_0, a_94, inb_n, ix_n, if_true, ne_eq, Nat.reduceEqDiff, not_false_eq_true, vM, clK_s, tl_s, tl_n, clr_i, clr_n, clr_a, nI_add, n10, oI_s]
          exact hdone (some (pz, cuV A oz pz)) _ _ _ hnew (fun x hx => by cases hx; rfl)
        · have z2 : nI x.2 ≤ nI (cuV A oz pz) := nI_le (by omega) (by omega)
          simp only [z2, hq, if_false, if_true, e155_94, e155_95, e155_98, e155_99, e155_101, e155_103, e155_106, e155_108, e155_111, e155_112, e155_113, e155_115, e155_118, e155_120, e155_123, e155_125, e155_127, e155_130, ↓reduceIte, gM_0, a_94, inb_n, ix_n, if_true, ne_eq, Nat.reduceEqDiff, not_false_eq_true, vM, clK_s, tl_s, tl_n, clr_i, clr_n, clr_a, nI_add, oI_s]
          exact hdone (some x) _ _ _ hok (fun y hy => by cases hy; rfl)
theorem op_curtain {xv yv : Int32} (hI : INV σ A B im) : OK2 σ (Rn E (d + 50) 67 0 [some (.ref 0), some (.int xv), some (.int yv), none, none, none, none] []) (Rn E (d + 50) 155 0 [some (.ref 93), some (.int xv), some (.int yv), none, none, none, none, none] []) := by
  obtain ⟨⟨hC, hM, hW, hX, hc, hR⟩, _⟩ := id hI
  have h8 := hW.1
  cases ho : hasB A xv with
  | false =>
    refine ok_read (vv := (-1000000001)) hI ?_ ?_
    · simp (disch := omega) only [e67_0, e67_1, e67_4, e67_5, e67_8, e67_11, e67_12, e67_13, e67_14, e67_17, e67_20, e67_22, ↓reduceIte, inb_n, ix_n, if_true, ne_eq, Nat.reduceEqDiff, not_false_eq_true, clK_s, tl_s, tl_n, clr_i, clr_n, clr_a, nI_add, gX_2, gT_0 t36, gT_1 t36, gT_2 t36, gT_3 t36, gT_4 t36, gT_5 t36, gT_6 t36, gT_7 t36, gT_8 t36, gT_9 t36, gT_10 t36, gT_11 t36, gT_12 t36, gT_13 t36, gT_14 t36, gT_15 t36, gT_16 t36, gT_17 t36, pT_10 t36, pT_11 t36, pT_12 t36, pT_13 t36, pT_14 t36, pT_15 t36, pT_16 t36, pT_17 t36, aT_1 t36, aT_2 t36, aT_3 t36, aT_4 t36, aT_5 t36, aT_6 t36, aT_7 t36, aT_8 t36, aT_9 t36, sT_1 t36, sT_2 t36, sT_3 t36, sT_4 t36, sT_5 t36, sT_6 t36, sT_7 t36, sT_8 t36, sT_9 t36, vT t36, c_has t36 hC h8, ho, bI_0, Bool.true_eq_false, Bool.false_eq_true, not_true_eq_false, not_false_eq_true, if_false, reduceCtorEq]
    · simp (disch := omega) only [e155_0, e155_1, e155_2, e155_5, e155_8, e155_9, e155_10, e155_11, e155_12, e155_15, e155_18, e155_20, ↓reduceIte, gM_0, a_94, inb_n, ix_n, if_true, ne_eq, Nat.reduceEqDiff, not_false_eq_true, vM, clK_s, tl_s, tl_n, clr_i, clr_n, clr_a, nI_add, k_isOne hM h8, ho, bI_0, Bool.true_eq_false, Bool.false_eq_true, not_true_eq_false, not_false_eq_true, if_false, reduceCtorEq]
  | true =>
    obtain ⟨kz, hk, rfl⟩ := hasB_ex ho
    cases hb : rg 0 1 yv with
    | false =>
      refine ok_read (vv := (-1000000001)) hI ?_ ?_
      · simp (disch := omega) only [e67_0, e67_1, e67_4, e67_5, e67_8, e67_11, e67_12, e67_13, e67_14, e67_17, e67_20, e67_22, ↓reduceIte, inb_n, ix_n, if_true, ne_eq, Nat.reduceEqDiff, not_false_eq_true, clK_s, tl_s, tl_n, clr_i, clr_n, clr_a, nI_add, gX_2, gT_0 t36, gT_1 t36, gT_2 t36, gT_3 t36, gT_4 t36, gT_5 t36, gT_6 t36, gT_7 t36, gT_8 t36, gT_9 t36, gT_10 t36, gT_11 t36, gT_12 t36, gT_13 t36, gT_14 t36, gT_15 t36, gT_16 t36, gT_17 t36, pT_10 t36, pT_11 t36, pT_12 t36, pT_13 t36, pT_14 t36, pT_15 t36, pT_16 t36, pT_17 t36, aT_1 t36, aT_2 t36, aT_3 t36, aT_4 t36, aT_5 t36, aT_6 t36, aT_7 t36, aT_8 t36, aT_9 t36, sT_1 t36, sT_2 t36, sT_3 t36, sT_4 t36, sT_5 t36, sT_6 t36, sT_7 t36, sT_8 t36, sT_9 t36, vT t36, c_has t36 hC h8, ho, c_isWithin, tI_0, tI_1, tI_2, tI_3, tI_4, tI_5, tI_6, tI_7, tI_8, tI_19, tI_20, tI_23, tI_24, tI_29, tI_30, tI_48, tI_50, tI_57, tI_60, tI_97, tI_100, tI_122, tI_200, tI_99999, tI_m1, tI_m99999, hb, bI_0, Bool.true_eq_false, Bool.false_eq_true, not_true_eq_false, not_false_eq_true, if_false, reduceCtorEq]
      · simp (disch := omega) only [e155_0, e155_1, e155_2, e155_5, e155_8, e155_9, e155_10, e155_11, e155_12, e155_15, e155_18, e155_20, ↓reduceIte, gM_0, a_94, inb_n, ix_n, if_true, ne_eq, Nat.reduceEqDiff, not_false_eq_true, vM, clK_s, tl_s, tl_n, clr_i, clr_n, clr_a, nI_add, k_isOne hM h8, ho, k_in, rgL_c, tL_0, tL_1, tL_2, tL_3, tL_4, tL_5, tL_6, tL_7, tL_8, tL_19, tL_30, tL_48, tL_50, tL_57, tL_60, tL_97, tL_100, tL_122, tL_200, tL_99999, tL_m1, tL_m99999, hb, bI_0, Bool.true_eq_false, Bool.false_eq_true, not_true_eq_false, not_false_eq_true, if_false, reduceCtorEq]
    | true =>
      obtain ⟨wz, hw, rfl⟩ := rg_e (n := 1) rfl hb
      obtain ⟨σ1, a1, a2, a3⟩ := c_takes (E := E) (d := d + 48) t56 t36 (by decide) hC h8
      have hC1 : CR σ1 36 A := hC.ext (fun a h1 h2 _ => a2 a (by omega) (by omega))
      have hR1 := hR.ft hX.1 (by omega) a2
      have hok0 : okO none := fun x hx => by cases hx
      obtain ⟨σ2, w7, b1, b2⟩ := c_cur_l (E := E) (d := d + 44) (yv := nI wz) hW hX hk 20 0 none σ1 (tC A 50) none (by omega) hok0 hC1 (by rw [tnC_id]; exact a3) hR1
      have ft := a2.tr b2
      have e94 : σ2 94 = σ 94 := ft 94 (by omega) (by omega)
      have hM2 : MR (σ2 94) A := by rw [e94]; exact hM
      have hC2 : CR σ2 36 A := hC.ext (fun a h1 h2 _ => ft a (by omega) (by omega))
      obtain ⟨σ3, w8, w9, l2, g1, g2, g3, g4, g5⟩ := k_cur_l (E := E) (d := d + 44) (yv := nI wz) hW hX hk 20 0 none (nI 0) σ2 none none (by omega) hok0 (fun x hx => by cases hx) hM2
      refine ⟨if wz = 0 then oM (o1 (cuF A kz 20 0 none)) else oM (o2 (cuF A kz 20 0 none)), σ2, σ3, A, B, im, ?_, ?_, hI.same ((QT.f56 ft).tr (QT.fr (g2.mono (by decide)))) (hC2.ext (fun a h1 h2 _ => g2 a (by simp; omega))) g3⟩
      · simp (disch := omega) only [e67_0, e67_1, e67_4, e67_5, e67_8, e67_11, e67_12, e67_13, e67_14, e67_17, e67_20, e67_22, e67_23, e67_25, e67_26, e67_28, e67_30, e67_31, e67_34, e67_35, e67_38, e67_41, e67_42, ↓reduceIte, inb_n, ix_n, if_true, ne_eq, Nat.reduceEqDiff, not_false_eq_true, clK_s, tl_s, tl_n, clr_i, clr_n, clr_a, nI_add, gX_2, gX_4, gT_0 t36, gT_1 t36, gT_2 t36, gT_3 t36, gT_4 t36, gT_5 t36, gT_6 t36, gT_7 t36, gT_8 t36, gT_9 t36, gT_10 t36, gT_11 t36, gT_12 t36, gT_13 t36, gT_14 t36, gT_15 t36, gT_16 t36, gT_17 t36, pT_10 t36, pT_11 t36, pT_12 t36, pT_13 t36, pT_14 t36, pT_15 t36, pT_16 t36, pT_17 t36, aT_1 t36, aT_2 t36, aT_3 t36, aT_4 t36, aT_5 t36, aT_6 t36, aT_7 t36, aT_8 t36, aT_9 t36, sT_1 t36, sT_2 t36, sT_3 t36, sT_4 t36, sT_5 t36, sT_6 t36, sT_7 t36, sT_8 t36, sT_9 t36, vT t36, c_has t36 hC h8, ho, c_isWithin, tI_0, tI_1, tI_2, tI_3, tI_4, tI_5, tI_6, tI_7, tI_8, tI_19, tI_20, tI_23, tI_24, tI_29, tI_30, tI_48, tI_50, tI_57, tI_60, tI_97, tI_100, tI_122, tI_200, tI_99999, tI_m1, tI_m99999, hb, bI_0, Bool.true_eq_false, Bool.false_eq_true, not_true_eq_false, not_false_eq_true, if_false, reduceCtorEq, vT t56, a1]
        refine Eq.trans b1 ?_
        simp (disch := omega) only [e67_118, e67_119, e67_122, e67_123, e67_126, e67_128, nI_lt2]
        by_cases hz : wz = 0 <;> simp [hz]
      · simp (disch := omega) only [e155_0, e155_1, e155_2, e155_5, e155_8, e155_9, e155_10, e155_11, e155_12, e155_15, e155_18, e155_20, e155_21, e155_22, e155_23, e155_24, e155_26, e155_27, ↓reduceIte, gM_0, a_94, inb_n, ix_n, if_true, ne_eq, Nat.reduceEqDiff, not_false_eq_true, vM, clK_s, tl_s, tl_n, clr_i, clr_n, clr_a, nI_add, k_isOne hM2 h8, ho, k_in, rgL_c, tL_0, tL_1, tL_2, tL_3, tL_4, tL_5, tL_6, tL_7, tL_8, tL_19, tL_30, tL_48, tL_50, tL_57, tL_60, tL_97, tL_100, tL_122, tL_200, tL_99999, tL_m1, tL_m99999, hb, bI_0, Bool.true_eq_false, Bool.false_eq_true, not_true_eq_false, not_false_eq_true, if_false, reduceCtorEq]
        refine Eq.trans g1 ?_
        have hlt : ∀ kk, o1 (cuF A kz 20 0 none) = some kk → kk < 2 ^ 31 := fun kk hkk => by
          cases hq : cuF A kz 20 0 none with
          | none => rw [hq] at hkk; cases hkk
          | some x =>
            have := (g4 x hq).1
            rw [hq] at hkk
            have : kk = x.1 := (Option.some.inj hkk).symm
            omega
        simp (disch := omega) only [e155_133, e155_134, e155_137, e155_139, e155_142, e155_143, e155_146, e155_147, e155_150, e155_152, oI_pos hlt, nI_lt2]
        cases hq : cuF A kz 20 0 none with
        | none => simp [o1, o2, oM]
        | some x =>
          rw [g5 x hq]
          by_cases hz : wz = 0 <;> simp [hz, o1, o2, oM, oI]
end Cur
