/-! A TEXT IS READ, class and reference -/
theorem lkA_ap {key : Nat} {tx : Tx} : ∀ (l : List Tx) (i : Nat) (acc : Option Nat), lkA key (l ++ [tx]) i acc = if tx.1 = key then some (i + l.length) else lkA key l i acc := by
  intro l
  induction l with
  | nil =>
    intro i acc
    rfl
  | cons a r ih =>
    intro i acc
    show lkA key (r ++ [tx]) (i + 1) _ = if tx.1 = key then some (i + (r.length + 1)) else lkA key r (i + 1) _
    rw [ih, show i + 1 + r.length = i + (r.length + 1) by omega]
theorem lastK_ap {key : Nat} {l : List Tx} {tx : Tx} : lastK (l ++ [tx]) key = if tx.1 = key then some l.length else lastK l key := by
  unfold lastK
  rw [lkA_ap, Nat.zero_add]
def txA (A : Tn) (l : List Tx) : Tn := (tN A, tF A, tC A, l)
theorem MR_tx {s s2 : Nat → Int32} {A : Tn} (hM : MR s A) (h8 : tN A ≤ 8) (hX : WFx A) (h : ∀ j, j ≠ 1 → j < 51 + 200 * (tX A).length → s2 j = s j) {l : List Tx} (h1 : s2 1 = nI l.length) (h2 : ∀ t tx, l[t]? = some tx → (tX A)[t]? = some tx ∨ MTx s2 t tx) : MR s2 (txA A l) := by
  obtain ⟨m1, m2, m3, m4, m5, m6⟩ := hM
  refine ⟨?_, ?_, ?_, ?_, h1, ?_⟩
  · rw [h 0 (by omega) (by omega)]; exact m1
  · intro kz hk j hj
    have hk : kz < tN A := hk
    rw [h _ (by omega) (by omega)]
    exact m2 kz hk j hj
  · intro i i2 i10
    rw [h i (by omega) (by omega)]; exact m3 i i2 i10
  · rw [h 50 (by omega) (by omega)]; exact m4
  · intro t tx hg
    rcases h2 t tx hg with hq | hq
    · have hlt : t < (tX A).length := by
        rcases Nat.lt_or_ge t (tX A).length with q | q
        · exact q
        · rw [List.getElem?_eq_none q] at hq; cases hq
      have hok := (hX.2 tx (List.mem_of_getElem? hq)).2.1
      obtain ⟨a1, a2, a3, a4⟩ := m6 t tx hq
      refine ⟨?_, ?_, ?_, ?_⟩
      · rw [h _ (by omega) (by omega)]; exact a1
      · rw [h _ (by omega) (by omega)]; exact a2
      · rw [h _ (by omega) (by omega)]; exact a3
      · intro i w xv hi
        have hil : i < tx.2.2.length := by
          rcases Nat.lt_or_ge i tx.2.2.length with q | q
          · exact q
          · rw [List.getElem?_eq_none q] at hi; cases hi
        rw [h _ (by omega) (by omega), h _ (by omega) (by omega)]
        exact a4 i w xv hi
    · exact hq
section Text
variable {E : aE} {d : Nat} {σ σ2 : Nat → Nat → Int32} {A B : Tn} {im : Bool}
theorem INV.tx {l : List Tx} (hI : INV σ A B im) (hX : l.length ≤ 14 ∧ ∀ tx ∈ l, okTx tx) (hp : tX A <+: l) (hr : ∀ a, a ≠ 34 → a ≠ 4 + 2 * (tX A).length → a ≠ 5 + 2 * (tX A).length → a ≠ 93 → a ≠ 94 → a ≠ 36 → a ≠ 45 → σ2 a = σ a) (h36 : ∀ i, i ≠ 17 → σ2 36 i = σ 36 i) (h17 : σ2 36 17 = nI l.length) (h45 : ∀ key, key < 3 → σ2 45 key = oI (lastK l key)) (hT : TR σ2 l) (hM : MR (σ2 94) (txA A l)) (h1 : σ2 34 1 = nI 0) (h15 : σ2 93 15 = nI 0) (h93 : ∀ i, i < 15 ∨ 25 < i → σ2 93 i = σ 93 i) : INV σ2 (txA A l) B im := by
  obtain ⟨⟨i1, i2, i3, i4, i5, i6⟩, ⟨j1, j2, j3⟩, l1, l2, l3, l4⟩ := hI
  have h14 := i4.1
  refine ⟨⟨?_, hM, i3, hX, i5, hT⟩, ⟨?_, ?_, ?_⟩, ?_, ?_, ?_, ?_⟩
  · obtain ⟨c1, c2, c3, c4, c5, c6, c7⟩ := i1
    refine ⟨?_, ?_, ?_, ?_, ?_, ?_, h17⟩
    · rw [h36 10 (by omega)]; exact c1
    · intro kz hk j hj
      rw [hr (36 + 1 + j) (by omega) (by omega) (by omega) (by omega) (by omega) (by omega) (by omega)]
      exact c2 kz hk j hj
    · rw [hr (36 + 7) (by omega) (by omega) (by omega) (by omega) (by omega) (by omega) (by omega)]; exact c3
    · rw [hr (36 + 8) (by omega) (by omega) (by omega) (by omega) (by omega) (by omega) (by omega)]; exact c4
    · exact h45
    · rw [h36 11 (by omega), h36 12 (by omega), h36 13 (by omega), h36 14 (by omega), h36 15 (by omega), h36 16 (by omega)]; exact c6
  · rw [hr 0 (by omega) (by omega) (by omega) (by omega) (by omega) (by omega) (by omega)]; exact j1
  · rw [h93 3 (by omega)]; exact j2
  · intro hi
    obtain ⟨k1, k2, k3, k4, k5⟩ := j3 hi
    exact ⟨k1.ext (fun a g1 g2 _ => hr a (by omega) (by omega) (by omega) (by omega) (by omega) (by omega) (by omega)), by rw [hr 95 (by omega) (by omega) (by omega) (by omega) (by omega) (by omega) (by omega)]; exact k2, k3, k4, k5.trans hp⟩
  · exact l1.ext (fun a ha => hr a (by omega) (by omega) (by omega) (by omega) (by omega) (by omega) (by omega))
  · exact l2.ext (fun a ha => hr a (by omega) (by omega) (by omega) (by omega) (by omega) (by omega) (by omega))
  · exact ⟨0, by omega, h1, h15, fun i hi => by omega⟩
  · exact l4.ext (by rw [hr 0 (by omega) (by omega) (by omega) (by omega) (by omega) (by omega) (by omega)]) (h93 30 (by omega)) (hr 68 (by omega) (by omega) (by omega) (by omega) (by omega) (by omega) (by omega)) (hr 111 (by omega) (by omega) (by omega) (by omega) (by omega) (by omega) (by omega))
theorem op_text (hI : INV σ A B im) : OK2 σ (Rn E (d + 100) 80 0 [some (.ref 0), none, none, none] []) (Rn E (d + 100) 185 0 [some (.ref 93), none, none] []) := by
  obtain ⟨⟨hC, hM, hW, hX, hc, hR⟩, _, _, _, hLt, _⟩ := id hI
  have h14 := hX.1
  obtain ⟨n, n96, e1, e15, eT⟩ := hLt
  have hKt : ∀ i, i < n → ix (σ 107 i) < 256 ∧ σ 107 i = nI (ix (σ 107 i)) ∧ σ 35 i = (nI (ix (σ 107 i))).toInt8.toInt32 := by
    intro i hi
    obtain ⟨b, b1, b2, b3⟩ := eT i hi
    rw [b2, ix_n (by omega)]
    exact ⟨b1, rfl, b3⟩
  have ⟨tp, etp⟩ : ∃ tp : Nat → Nat, tp = fun i => ix (σ 107 i) := ⟨_, rfl⟩
  have hTP : TP σ n tp := ⟨n96, e1, fun i hi => by rw [etp]; exact ⟨(hKt i hi).1, (hKt i hi).2.2⟩⟩
  have hKP : KP σ n tp := ⟨n96, e15, fun i hi => by rw [etp]; exact ⟨(hKt i hi).1, (hKt i hi).2.1⟩⟩
  have ⟨N, eN⟩ : ∃ N, N = (tX A).length := ⟨_, rfl⟩
  have q17 : σ 36 17 = nI N := by rw [eN]; exact hC.tx
  have s1 : σ 94 1 = nI N := by rw [eN]; exact hM.2.2.2.2.1
  rw [← eN] at h14
  have hh : isW (4 + 2 * N) := isW_n (by omega)
  have hmin : imin (nI N) (nI 14) = nI N := by
    unfold imin
    rw [if_neg (nI_nlt (by omega) (by omega))]
  obtain ⟨σ1, g1, g2, g3, g4⟩ := c_parse (E := E) (D := d + 99) hh (by omega) hTP
  have r93 : σ1 93 = σ 93 := g2 93 (by simp; omega)
  have r94 : σ1 94 = σ 94 := g2 94 (by simp; omega)
  have r36 : σ1 36 = σ 36 := g2 36 (by simp; omega)
  have r45 : σ1 45 = σ 45 := g2 45 (by simp; omega)
  obtain ⟨sp1, sp2⟩ := sp_ok (tp := tp) n96
  -- the class's last steps
  have hc0 : Rn E (d + 100) 80 0 [some (.ref 0), none, none, none] [] (shp, σ) = Rn E (d + 100) 80 32 [some (.ref 0), some (.int (nI N)), some (.ref (4 + 2 * N)), some (.int (spV (spP tp n)))] [] (shp, σ1) := by
    simp (disch := omega) only [e80_0, e80_1, e80_4, e80_7, e80_9, e80_12, e80_13, e80_14, e80_17, e80_20, e80_21, e80_22, e80_23, e80_24, e80_27, e80_28, e80_31, ↓reduceIte, inb_n, ix_n, if_true, ne_eq, Nat.reduceEqDiff, not_false_eq_true, clK_s, tl_s, tl_n, clr_i, clr_n, clr_a, nI_add, gX_0, gX_1, gX_2, gL_0, q_2, gT_0 t36, gT_1 t36, gT_2 t36, gT_3 t36, gT_4 t36, gT_5 t36, gT_6 t36, gT_7 t36, gT_8 t36, gT_9 t36, gT_10 t36, gT_11 t36, gT_12 t36, gT_13 t36, gT_14 t36, gT_15 t36, gT_16 t36, gT_17 t36, pT_10 t36, pT_11 t36, pT_12 t36, pT_13 t36, pT_14 t36, pT_15 t36, pT_16 t36, pT_17 t36, aT_1 t36, aT_2 t36, aT_3 t36, aT_4 t36, aT_5 t36, aT_6 t36, aT_7 t36, aT_8 t36, aT_9 t36, sT_1 t36, sT_2 t36, sT_3 t36, sT_4 t36, sT_5 t36, sT_6 t36, sT_7 t36, sT_8 t36, sT_9 t36, vT t36, q17, hmin, vR, g1]
  have lAt_o : ∀ j, j ≠ 1 → j < 51 + 200 * N → j < lAt N := by
    intro j _ hj
    unfold lAt
    split <;> omega
  have l1 : 1 < lAt N := by unfold lAt; split <;> omega
  -- nothing is laid
  have hno : ∀ (σ3 : Nat → Nat → Int32), KFz (lAt N) σ1 σ3 → σ3 93 15 = nI 0 → INV σ3 A B im := by
    intro σ3 k1 k2
    have e94 : ∀ j, j < lAt N → σ3 94 j = σ 94 j := fun j hj => by rw [k1.2.2 j (Or.inl hj), r94]
    have hr : ∀ a, a ≠ 34 → a ≠ 4 + 2 * N → a ≠ 5 + 2 * N → a ≠ 93 → a ≠ 94 → σ3 a = σ a := fun a h1 h2 h3 h4 h5 => (k1.1 a (by simp; omega)).trans (g2 a (by simp; omega))
    have e36 := hr 36 (by omega) (by omega) (by omega) (by omega) (by omega)
    have e45 := hr 45 (by omega) (by omega) (by omega) (by omega) (by omega)
    refine INV.tx (l := tX A) hI hX (List.prefix_refl _) (fun a h1 h2 h3 h4 h5 _ _ => hr a h1 (by rw [eN]; exact h2) (by rw [eN]; exact h3) h4 h5) (fun i _ => by rw [e36]) (by rw [e36]; exact hC.tx) ?_ ?_ ?_ ?_ k2 ?_
    · rw [e45]; exact hC.2.2.2.2.1
    · intro tz tx hg
      have hlt : tz < (tX A).length := by
        rcases Nat.lt_or_ge tz (tX A).length with q | q
        · exact q
        · rw [List.getElem?_eq_none q] at hg; cases hg
      have := hR tz tx hg
      unfold TRx at this ⊢
      rw [hr (4 + 2 * tz) (by omega) (by omega) (by omega) (by omega) (by omega), hr (4 + 2 * tz + 1) (by omega) (by omega) (by omega) (by omega) (by omega)]
      exact this
    · exact MR_tx hM hW.1 hX (fun j h1 h2 => e94 j (lAt_o j h1 (by rw [eN]; exact h2))) (by rw [e94 1 l1]; exact hM.2.2.2.2.1) (fun t tx hg => Or.inl hg)
    · rw [k1.1 34 (by simp)]; exact g3
    · intro i hi
      rw [k1.2.1 i hi, r93]
  cases hsp : spP tp n with
  | inl pz =>
    have hp := sp1 pz hsp
    have hK1 : KP σ1 n tp := hKP.ext (by rw [r93]) (g2 107 (by simp; omega))
    obtain ⟨σ3, k1, k2, k3, k4, k5⟩ := k_parse (E := E) (D := d + 99) (N := N) (by omega) hK1 (by rw [r94]; exact s1) h14
    have z1 : ¬ nI pz < nI 0 := nI_nlt (by omega) (by omega)
    have z2 : ¬ nI 0 ≤ (-1 : Int32) := by decide +kernel
    refine ⟨(-100) - nI pz, σ1, σ3, A, B, im, ?_, ?_, hno σ3 k2 k3⟩
    · rw [hc0, hsp]
      show Rn E (d + 100) 80 32 [_, _, _, some (.int (nI pz))] [] (shp, σ1) = _
      simp (disch := omega) only [e80_32, e80_33, e80_36, e80_38, e80_39, e80_40, ↓reduceIte, inb_n, ix_n, if_true, ne_eq, Nat.reduceEqDiff, not_false_eq_true, clK_s, tl_s, tl_n, clr_i, clr_n, clr_a, nI_add, z1]
    · rw [hsp] at k1
      have k1' : Rn E (d + 99) 184 0 [some (.ref 93), none, none] [] (shp, σ1) = some (some (.int (-1)), (shp, σ3)) := k1
      simp (disch := omega) only [e185_0, e185_1, e185_4, e185_5, e185_6, e185_9, e185_11, e185_12, e185_15, e185_16, ↓reduceIte, gM_0, a_94, inb_n, ix_n, if_true, ne_eq, Nat.reduceEqDiff, not_false_eq_true, vM, clK_s, tl_s, tl_n, clr_i, clr_n, clr_a, nI_add, k1', z2, gM_16, k4 pz hsp]
  | inr tx =>
    have hok := sp2 tx hsp
    obtain ⟨p1, p2, p3, p4⟩ := g4 tx hsp
    have zm : (-1 : Int32) < nI 0 := by decide +kernel
    have z2 : nI 0 ≤ nI tx.1 := by have := hok.1; rw [nI_leI (by omega) (by omega)]; omega
    by_cases hN : N < 14
    · have zn : nI N < nI 14 := nI_lt hN (by omega)
      have hk3 := hok.1
      have hl96 := hok.2.1
      have ⟨σc, ec⟩ : ∃ σc, σc = su (su σ1 (36 + 9) tx.1 (nI N)) 36 17 (nI (N + 1)) := ⟨_, rfl⟩
      have rc : ∀ a, a ≠ 36 → a ≠ 45 → σc a = σ1 a := fun a h1 h2 => by rw [ec, su_row h1, su_row h2]
      have c36 : ∀ i, i ≠ 17 → σc 36 i = σ 36 i := fun i hi => by rw [ec, su_p (Or.inr (fun z => hi z.symm)), su_p (Or.inl (by omega)), r36]
      have c17 : σc 36 17 = nI (N + 1) := by rw [ec, su_rf, pk_us]
      have c45 : ∀ key, σc 45 key = if tx.1 = key then nI N else σ 45 key := by
        intro key
        rw [ec, su_row (by omega)]
        by_cases hq : tx.1 = key
        · rw [if_pos hq, ← hq]; exact (by rw [su_rf, pk_us])
        · rw [if_neg hq, su_p (Or.inr hq), r45]
      have hKc : KP σc n tp := hKP.ext (by rw [rc 93 (by omega) (by omega), r93]) (by rw [rc 107 (by omega) (by omega)]; exact g2 107 (by simp; omega))
      have rc94 : σc 94 = σ 94 := by rw [rc 94 (by omega) (by omega), r94]
      obtain ⟨σ3, k1, k2, k3, k4, k5⟩ := k_parse (E := E) (D := d + 99) (N := N) (by omega) hKc (by rw [rc94]; exact s1) h14
      rw [hsp] at k1
      have k1' : Rn E (d + 99) 184 0 [some (.ref 93), none, none] [] (shp, σc) = some (some (.int (nI tx.1)), (shp, σ3)) := k1
      have eL : lAt N = 55 + 200 * N := by unfold lAt; rw [if_pos hN]
      obtain ⟨v1, v2, v3⟩ := k5 tx hsp
      rw [eL] at v3 k2
      have e31 : σ3 94 1 = nI N := by rw [k2.2.2 1 (by omega), rc94]; exact s1
      have hne : ¬ nI N = nI 14 := fun z => by have := (nI_eq (a := N) (b := 14) (by omega) (by omega)).mp z; omega
      have f25 : su σ3 94 (51 + 200 * N) (nI tx.1) 93 25 = nI tx.2.1 := by rw [su_p (Or.inl (by omega))]; exact v2
      have f23 : su (su σ3 94 (51 + 200 * N) (nI tx.1)) 94 (51 + 200 * N + 1) (nI tx.2.1) 93 23 = nI tx.2.2.length := by rw [su_p (Or.inl (by omega)), su_p (Or.inl (by omega))]; exact v1
      have f1 : su (su (su σ3 94 (51 + 200 * N) (nI tx.1)) 94 (51 + 200 * N + 1) (nI tx.2.1)) 94 (51 + 200 * N + 2) (nI tx.2.2.length) 94 1 = nI N := by rw [su_p (Or.inr (by omega)), su_p (Or.inr (by omega)), su_p (Or.inr (by omega))]; exact e31
      have f1b : su (su (su (su σ3 94 (51 + 200 * N) (nI tx.1)) 94 (51 + 200 * N + 1) (nI tx.2.1)) 94 (51 + 200 * N + 2) (nI tx.2.2.length)) 94 1 (nI (N + 1)) 94 1 = nI (N + 1) := by rw [su_rf, pk_us]
      have hs : nI (N + 1) - nI 1 = nI N := by rw [pk_sub (by omega)]; rfl
      have ⟨σf, ef⟩ : ∃ σf, σf = su (su (su (su σ3 94 (51 + 200 * N) (nI tx.1)) 94 (51 + 200 * N + 1) (nI tx.2.1)) 94 (51 + 200 * N + 2) (nI tx.2.2.length)) 94 1 (nI (N + 1)) := ⟨_, rfl⟩
      have rf : ∀ a, a ≠ 94 → σf a = σ3 a := fun a h1 => by rw [ef, su_row h1, su_row h1, su_row h1, su_row h1]
      have rr : ∀ a, a ≠ 34 → a ≠ 4 + 2 * N → a ≠ 5 + 2 * N → a ≠ 93 → a ≠ 94 → a ≠ 36 → a ≠ 45 → σf a = σ a := fun a h1 h2 h3 h4 h5 h6 h7 => by
        rw [rf a h5, k2.1 a (by simp; omega), rc a h6 h7]
        exact g2 a (by simp; omega)
      have r3c : ∀ a, a ≠ 93 → a ≠ 94 → σf a = σc a := fun a h4 h5 => by rw [rf a h5]; exact k2.1 a (by simp; omega)
      have f94 : ∀ j, j ≠ 1 → j < 51 + 200 * N → σf 94 j = σ 94 j := fun j h1 h2 => by
        rw [ef, su_p (Or.inr (by omega)), su_p (Or.inr (by omega)), su_p (Or.inr (by omega)), su_p (Or.inr (by omega)), k2.2.2 j (by omega), rc94]
      have hlen : (tX A ++ [tx]).length = N + 1 := by rw [List.length_append, ← eN]; rfl
      have hget : ∀ t ty, (tX A ++ [tx])[t]? = some ty → (tX A)[t]? = some ty ∧ t < N ∨ t = N ∧ ty = tx := by
        intro t ty hg
        rcases Nat.lt_trichotomy t N with q | q | q
        · rw [List.getElem?_append_left (by omega)] at hg
          exact Or.inl ⟨hg, q⟩
        · rw [List.getElem?_append_right (by omega), show t - (tX A).length = 0 by omega] at hg
          exact Or.inr ⟨q, (Option.some.inj hg).symm⟩
        · rw [List.getElem?_eq_none (by omega)] at hg; cases hg
      refine ⟨nI N, σc, σf, txA A (tX A ++ [tx]), B, im, ?_, ?_, ?_⟩
      · rw [hc0, hsp, ec]
        show Rn E (d + 100) 80 32 [_, _, _, some (.int (-1))] [] (shp, σ1) = _
        simp (disch := omega) only [e80_32, e80_33, e80_36, e80_38, e80_39, e80_40, e80_41, e80_42, e80_44, e80_47, e80_49, e80_50, e80_51, e80_54, e80_57, e80_58, e80_61, e80_62, e80_63, e80_64, e80_67, e80_68, e80_69, e80_70, e80_73, e80_74, ↓reduceIte, inb_n, ix_n, if_true, ne_eq, Nat.reduceEqDiff, not_false_eq_true, clK_s, tl_s, tl_n, clr_i, clr_n, clr_a, nI_add, zm, zn, gX_2, gW_2 hh, p2, gT_0 t36, gT_1 t36, gT_2 t36, gT_3 t36, gT_4 t36, gT_5 t36, gT_6 t36, gT_7 t36, gT_8 t36, gT_9 t36, gT_10 t36, gT_11 t36, gT_12 t36, gT_13 t36, gT_14 t36, gT_15 t36, gT_16 t36, gT_17 t36, pT_10 t36, pT_11 t36, pT_12 t36, pT_13 t36, pT_14 t36, pT_15 t36, pT_16 t36, pT_17 t36, aT_1 t36, aT_2 t36, aT_3 t36, aT_4 t36, aT_5 t36, aT_6 t36, aT_7 t36, aT_8 t36, aT_9 t36, sT_1 t36, sT_2 t36, sT_3 t36, sT_4 t36, sT_5 t36, sT_6 t36, sT_7 t36, sT_8 t36, sT_9 t36, vT t36]
      · rw [ef]
        simp (disch := omega) only [e185_0, e185_1, e185_4, e185_5, e185_6, e185_9, e185_11, e185_12, e185_15, e185_16, e185_17, e185_18, e185_21, e185_22, e185_23, e185_25, e185_28, e185_30, e185_31, e185_32, e185_33, e185_36, e185_37, e185_38, e185_41, e185_42, e185_43, e185_46, e185_47, e185_48, e185_49, e185_50, e185_51, e185_52, e185_55, e185_56, e185_57, e185_58, e185_59, e185_62, e185_63, e185_64, e185_67, e185_68, e185_69, e185_70, e185_71, e185_74, e185_75, e185_76, e185_79, e185_80, e185_81, e185_82, e185_83, e185_84, e185_85, e185_86, e185_89, e185_90, e185_91, e185_92, e185_93, ↓reduceIte, gM_0, a_94, inb_n, ix_n, if_true, ne_eq, Nat.reduceEqDiff, not_false_eq_true, vM, clK_s, tl_s, tl_n, clr_i, clr_n, clr_a, nI_add, k1', z2, e31, hne, k_textAt, Nat.add_zero, s_94, gM_23, gM_25, f25, f23, f1, f1b, hs]
      · refine INV.tx (l := tX A ++ [tx]) hI ⟨by omega, ?_⟩ (List.prefix_append _ _) (fun a h1 h2 h3 h4 h5 h6 h7 => rr a h1 (by rw [eN]; exact h2) (by rw [eN]; exact h3) h4 h5 h6 h7) (fun i hi => by rw [r3c 36 (by omega) (by omega)]; exact c36 i hi) (by rw [r3c 36 (by omega) (by omega), c17, hlen]) ?_ ?_ ?_ ?_ ?_ ?_
        · intro ty hy
          rcases List.mem_append.mp hy with hy | hy
          · exact hX.2 ty hy
          · rw [List.mem_singleton] at hy
            rw [hy]; exact hok
        · intro key hk
          rw [r3c 45 (by omega) (by omega), c45, lastK_ap]
          by_cases hq : tx.1 = key
          · rw [if_pos hq, if_pos hq, ← eN]; rfl
          · rw [if_neg hq, if_neg hq]; exact hC.2.2.2.2.1 key hk
        · intro t ty hg
          rcases hget t ty hg with ⟨q1, q2⟩ | ⟨q1, q2⟩
          · have := hR t ty q1
            unfold TRx at this ⊢
            rw [rr (4 + 2 * t) (by omega) (by omega) (by omega) (by omega) (by omega) (by omega) (by omega), rr (4 + 2 * t + 1) (by omega) (by omega) (by omega) (by omega) (by omega) (by omega) (by omega)]
            exact this
          · rw [q1, q2]
            unfold TRx
            rw [r3c (4 + 2 * N) (by omega) (by omega), r3c (4 + 2 * N + 1) (by omega) (by omega), rc (4 + 2 * N) (by omega) (by omega), rc (4 + 2 * N + 1) (by omega) (by omega)]
            exact ⟨p1, p2, p3, p4⟩
        · refine MR_tx hM hW.1 hX (fun j h1 h2 => f94 j h1 (by rw [eN]; exact h2)) (by rw [hlen, ef, su_rf, pk_us]) (fun t ty hg => ?_)
          rcases hget t ty hg with ⟨q1, q2⟩ | ⟨q1, q2⟩
          · exact Or.inl q1
          · right
            rw [q1, q2, ef]
            refine ⟨?_, ?_, ?_, ?_⟩
            · rw [su_p (Or.inr (by omega)), su_p (Or.inr (by omega)), su_p (Or.inr (by omega)), su_rf, pk_us]
            · rw [su_p (Or.inr (by omega)), su_p (Or.inr (by omega)), show 52 + 200 * N = 51 + 200 * N + 1 by omega, su_rf, pk_us]
            · rw [su_p (Or.inr (by omega)), show 53 + 200 * N = 51 + 200 * N + 2 by omega, su_rf, pk_us]
            · intro i w xv hi
              obtain ⟨u1, u2⟩ := v3 i w xv hi
              rw [su_p (Or.inr (by omega)), su_p (Or.inr (by omega)), su_p (Or.inr (by omega)), su_p (Or.inr (by omega)), su_p (Or.inr (by omega)), su_p (Or.inr (by omega)), su_p (Or.inr (by omega)), su_p (Or.inr (by omega))]
              refine ⟨u1, ?_⟩
              rw [show 56 + 200 * N + 2 * i = 55 + 200 * N + 2 * i + 1 by omega]
              exact u2
        · rw [r3c 34 (by omega) (by omega), rc 34 (by omega) (by omega)]; exact g3
        · rw [rf 93 (by omega)]; exact k3
        · intro i hi
          rw [rf 93 (by omega), k2.2.1 i hi, rc 93 (by omega) (by omega), r93]
    · have hN14 : N = 14 := by omega
      have hK1 : KP σ1 n tp := hKP.ext (by rw [r93]) (g2 107 (by simp; omega))
      obtain ⟨σ3, k1, k2, k3, k4, k5⟩ := k_parse (E := E) (D := d + 99) (N := N) (by omega) hK1 (by rw [r94]; exact s1) h14
      have zn : ¬ nI N < nI 14 := nI_nlt (by omega) (by omega)
      have e31 : σ3 94 1 = nI 14 := by rw [k2.2.2 1 (Or.inl l1), r94, s1, hN14]
      refine ⟨(-1000000003), σ1, σ3, A, B, im, ?_, ?_, hno σ3 k2 k3⟩
      · rw [hc0, hsp]
        show Rn E (d + 100) 80 32 [_, _, _, some (.int (-1))] [] (shp, σ1) = _
        simp (disch := omega) only [e80_32, e80_33, e80_36, e80_38, e80_39, e80_40, e80_41, e80_42, e80_44, e80_47, e80_49, ↓reduceIte, inb_n, ix_n, if_true, ne_eq, Nat.reduceEqDiff, not_false_eq_true, clK_s, tl_s, tl_n, clr_i, clr_n, clr_a, nI_add, zm, zn]
      · rw [hsp] at k1
        have k1' : Rn E (d + 99) 184 0 [some (.ref 93), none, none] [] (shp, σ1) = some (some (.int (nI tx.1)), (shp, σ3)) := k1
        simp (disch := omega) only [e185_0, e185_1, e185_4, e185_5, e185_6, e185_9, e185_11, e185_12, e185_15, e185_16, e185_17, e185_18, e185_21, e185_22, e185_23, e185_25, e185_28, e185_30, ↓reduceIte, gM_0, a_94, inb_n, ix_n, if_true, ne_eq, Nat.reduceEqDiff, not_false_eq_true, vM, clK_s, tl_s, tl_n, clr_i, clr_n, clr_a, nI_add, k1', z2, e31, not_true_eq_false]
end Text
