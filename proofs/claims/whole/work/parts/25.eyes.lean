/-! EYES: masks of at most eight, and the reference's looks and eyes -/
def mkF (pq : Nat → Bool) : Nat → Nat → Int32 → Int32
  | 0, _, av => av
  | r + 1, kz, av => if pq kz = true then mkF pq r (kz + 1) (av ||| (nI 1 <<< (nI kz &&& 31))) else mkF pq r (kz + 1) av
def mk (pq : Nat → Bool) (nz : Nat) : Int32 := mkF pq nz 0 (nI 0)
/-- how many of the first -/
def cnF (pq : Nat → Bool) : Nat → Nat → Nat
  | 0, _ => 0
  | r + 1, kz => (if pq kz = true then 1 else 0) + cnF pq r (kz + 1)
def cn (pq : Nat → Bool) (nz : Nat) : Nat := cnF pq nz 0
def popc (mz : Nat) : Nat := mz / 1 % 2 + mz / 2 % 2 + mz / 4 % 2 + mz / 8 % 2 + mz / 16 % 2 + mz / 32 % 2 + mz / 64 % 2 + mz / 128 % 2
theorem mk_step : ∀ kz, kz < 8 → ∀ az, az < 256 → az < 2 ^ kz → nI az ||| (nI 1 <<< (nI kz &&& 31)) = nI (az + 2 ^ kz) ∧ popc (az + 2 ^ kz) = popc az + 1 := by decide +kernel
theorem or_0 (xv : Int32) : xv ||| nI 0 = xv := by rw [nI_0]; exact Int32.or_zero
theorem mkF_nat {pq : Nat → Bool} : ∀ r kz az, kz + r ≤ 8 → az < 2 ^ kz → ∃ bz, bz < 2 ^ (kz + r) ∧ mkF pq r kz (nI az) = nI bz ∧ popc bz = popc az + cnF pq r kz := by
  intro r
  induction r with
  | zero => intro kz az _ ha; exact ⟨az, ha, rfl, rfl⟩
  | succ r ih =>
    intro kz az hk ha
    have h256 : (2 : Nat) ^ kz ≤ 2 ^ 8 := Nat.pow_le_pow_right (by omega) (by omega)
    have hs := mk_step kz (by omega) az (by omega) ha
    have hp : (2 : Nat) ^ (kz + 1) = 2 ^ kz + 2 ^ kz := by rw [Nat.pow_succ]; omega
    by_cases h : pq kz = true
    · obtain ⟨bz, h1, h2, h3⟩ := ih (kz + 1) (az + 2 ^ kz) (by omega) (by omega)
      refine ⟨bz, by rw [show kz + (r + 1) = kz + 1 + r by omega]; exact h1, ?_, ?_⟩
      · simp only [mkF, h, if_true]; rw [hs.1]; exact h2
      · simp only [cnF, h, if_true]; rw [h3, hs.2]; omega
    · obtain ⟨bz, h1, h2, h3⟩ := ih (kz + 1) az (by omega) (by omega)
      refine ⟨bz, by rw [show kz + (r + 1) = kz + 1 + r by omega]; exact h1, ?_, ?_⟩
      · simp only [mkF, h, if_false]; exact h2
      · simp only [cnF, h, if_false, Bool.false_eq_true]; rw [h3]; omega
theorem mk_nat {pq : Nat → Bool} {nz : Nat} (h : nz ≤ 8) : ∃ bz, bz < 256 ∧ mk pq nz = nI bz ∧ popc bz = cn pq nz := by
  obtain ⟨bz, h1, h2, h3⟩ := mkF_nat (pq := pq) nz 0 0 (by omega) (by decide)
  have : (2 : Nat) ^ (0 + nz) ≤ 2 ^ 8 := Nat.pow_le_pow_right (by omega) (by omega)
  exact ⟨bz, by omega, h2, by rw [h3]; show 0 + _ = _; exact Nat.zero_add _⟩
theorem cnF_le {pq : Nat → Bool} : ∀ r kz, cnF pq r kz ≤ r := by
  intro r
  induction r with
  | zero => intro kz; exact Nat.le_refl _
  | succ r ih => intro kz; have := ih (kz + 1); simp only [cnF]; split <;> omega
def spEy (A : Tn) (oz : Nat) : Int32 := mk (fun kz => decide (spLk A kz = some oz)) (tN A)
def spCn (A : Tn) (oz : Nat) : Nat := cn (fun kz => decide (spLk A kz = some oz)) (tN A)
def spSs (A : Tn) (oz : Nat) : Int32 := mk (fun kz => spSee A oz kz) (tN A)
def grK (kv gv : Int32) : Int32 := if kv = nI 1 then nI 2 * (if gv ≤ nI 0 then (-2) else gv) else if kv = nI 3 then nI 2 * (if gv ≤ nI 0 then (-2) else gv) else if kv = nI 2 then (if gv ≤ nI 0 then (-2) else gv) / nI 2 else if kv = nI 4 then (if gv ≤ nI 0 then (-2) else gv) / nI 2 - nI 1 else if kv = nI 5 then nI 0 else (if gv ≤ nI 0 then (-2) else gv)
def woK (kv xv : Int32) : Int32 := if kv = nI 1 then xv + nI 5 else if kv = nI 3 then nI 2 * (xv + nI 5) else if kv = nI 2 then nI 200 - xv else if kv = nI 4 then nI 194 - xv else if kv = nI 5 then nI 3 else xv
theorem lkF_lt {A : Tn} {az : Nat} : ∀ r kz (bo : Option Nat) (mv : Int32), (∀ jz, bo = some jz → jz < kz) → ∀ jz, lkF A az r kz bo mv = some jz → jz < kz + r := by
  intro r
  induction r with
  | zero => intro kz bo mv h jz hj; exact h jz hj
  | succ r ih =>
    intro kz bo mv h jz hj
    unfold lkF at hj
    split at hj
    · have := ih (kz + 1) (some kz) _ (fun iz z => by cases z; omega) jz hj; omega
    · have := ih (kz + 1) bo _ (fun iz z => by have := h iz z; omega) jz hj; omega
theorem spLk_lt {A : Tn} {az jz : Nat} (h : spLk A az = some jz) : jz < tN A := by
  unfold spLk at h
  split at h
  · cases h
  · have := lkF_lt _ 0 none _ (fun iz z => by cases z) jz h; omega
section Eyes
variable {E : aE} {d : Nat} {S : aSt} {σ : Nat → Nat → Int32} {A : Tn}
theorem k_looksAt_l {az : Nat} (hM : MR (σ 94) A) (hW : WFp A) (hX : WFx A) (ha : az < tN A) : ∀ r kz (bo : Option Nat) (mv : Int32) (σ1 : Nat → Nat → Int32) (w5 w6 w7 : Option Value), kz + r = tN A → Fr [108, 109] σ σ1 →
    ∃ σ2, Rn E (d + 4) 131 19 [some (.ref 93), some (.int (nI az)), some (.int (oI bo)), some (.int mv), some (.int (nI kz)), w5, w6, w7] [] (shp, σ1) = some (some (.int (oI (lkF A az r kz bo mv))), (shp, σ2)) ∧ Fr [108, 109] σ σ2 := by
  have h8 := hW.1
  intro r
  induction r with
  | zero =>
    intro kz bo mv σ1 w5 w6 w7 hk hf
    have e0 : σ1 94 0 = nI (tN A) := by rw [hf 94 (by decide)]; exact hM.1
    have h1 : tN A ≤ kz := by omega
    exact ⟨σ1, by simp (disch := omega) only [e131_0, e131_1, e131_2, e131_3, e131_6, e131_7, e131_10, e131_11, e131_12, e131_13, e131_14, e131_15, e131_16, e131_17, e131_19, e131_21, e131_22, e131_25, e131_26, e131_27, e131_30, e131_31, e131_33, e131_34, e131_37, e131_40, e131_41, e131_42, e131_44, e131_47, e131_50, e131_51, e131_52, e131_53, e131_56, e131_58, e131_59, e131_61, e131_62, e131_65, e131_67, e131_68, e131_70, e131_72, e131_73, e131_74, e131_76, e131_77, e131_78, e131_81, e131_83, e131_84, e131_85, e131_87, e131_88, e131_89, e131_92, e131_93, e131_96, e131_97, e131_98, e131_99, e131_102, e131_104, e131_107, e131_109, e131_112, e131_113, e131_114, e131_116, e131_118, e131_119, e131_122, e131_124, e131_127, e131_128, e131_129, e131_131, e131_132, e131_135, e131_137, e131_140, e131_141, e131_142, e131_145, e131_148, e131_149, gM_0, a_94, inb_n, ix_n, if_true, ne_eq, Nat.reduceEqDiff, not_false_eq_true, vM, clK_s, tl_s, tl_n, clr_i, clr_n, clr_a, nI_add, e0, nI_leI, h1, lkF], hf⟩
  | succ r ih =>
    intro kz bo mv σ1 w5 w6 w7 hk hf
    have e94 : σ1 94 = σ 94 := hf 94 (by decide)
    have hM1 : MR (σ1 94) A := by rw [e94]; exact hM
    have e0 := hM1.1
    have hkz : kz < tN A := by omega
    have h1 : ¬ tN A ≤ kz := by omega
    have f2 := hM1.2.1 kz hkz 2 (by omega)
    rw [e131_19]
    simp (disch := omega) only [e131_21, e131_22, e131_25, e131_26, e131_27, e131_30, e131_31, e131_33, e131_34, e131_37, gM_0, a_94, inb_n, ix_n, if_true, ne_eq, Nat.reduceEqDiff, not_false_eq_true, vM, clK_s, tl_s, tl_n, clr_i, clr_n, clr_a, nI_add, e0, nI_leI, h1, if_false, k_of, f2]
    by_cases hz : tF A kz 2 ≤ nI 0
    · have hz2 : ¬ nI 0 < tF A kz 2 := Int32.not_lt.mpr hz
      simp only [hz, if_true, e131_142, e131_145, gM_0, a_94, inb_n, ix_n, if_true, ne_eq, Nat.reduceEqDiff, not_false_eq_true, vM, clK_s, tl_s, tl_n, clr_i, clr_n, clr_a, nI_add, lkF, hz2, false_and, if_false]
      exact ih (kz + 1) bo mv σ1 _ _ _ (by omega) hf
    · have hz2 : nI 0 < tF A kz 2 := Int32.not_le.mp hz
      simp (disch := omega) only [hz, if_false, e131_40, e131_41, e131_42, e131_44, e131_47, gM_0, a_94, inb_n, ix_n, if_true, ne_eq, Nat.reduceEqDiff, not_false_eq_true, vM, clK_s, tl_s, tl_n, clr_i, clr_n, clr_a, nI_add, k_doesSee hM1 hW ha hkz, bI_0]
      cases hs : spSee A az kz with
      | false =>
        simp only [if_true, e131_142, e131_145, gM_0, a_94, inb_n, ix_n, if_true, ne_eq, Nat.reduceEqDiff, not_false_eq_true, vM, clK_s, tl_s, tl_n, clr_i, clr_n, clr_a, nI_add, lkF, hs, Bool.false_eq_true, false_and, and_false, if_false]
        exact ih (kz + 1) bo mv σ1 _ _ _ (by omega) hf
      | true =>
        obtain ⟨pz, hp, ep⟩ := (hW.2.1 az ha).1
        obtain ⟨qz, hq, eq⟩ := (hW.2.1 kz hkz).1
        have f1 := hM1.2.1 az ha 1 (by omega)
        have f3 := hM1.2.1 kz hkz 1 (by omega)
        have g1 : plc A az = pz := by unfold plc; rw [ep]; exact ix_n (by omega)
        have g2 : plc A kz = qz := by unfold plc; rw [eq]; exact ix_n (by omega)
        have hfar : farO A az kz = ofB (nI (pz / 5)) (nI (qz / 5)) + ofB (nI (pz % 5)) (nI (qz % 5)) := by unfold farO; rw [g1, g2]
        obtain ⟨σ2, hw, hf2⟩ := k_pulls (E := E) (d := d + 1) (far := farO A az kz) hM1 hW hX hkz
        have hw : Rn E (d + 3) 130 0 [some (.ref 93), some (.int (nI kz)), some (.int (farO A az kz)), none, none] [] (shp, σ1) = some (some (.int (spPl A kz (farO A az kz))), (shp, σ2)) := hw
        have hf3 := hf.tr hf2
        have hM2 : MR (σ2 94) A := by rw [hf3 94 (by decide)]; exact hM
        have f4 := hM2.2.1 az ha 4 (by omega)
        simp (disch := omega) only [reduceCtorEq, Bool.true_eq_false, if_false, e131_50, e131_51, e131_52, e131_53, e131_56, e131_58, e131_59, e131_61, e131_62, e131_65, e131_67, e131_68, e131_70, e131_72, e131_73, e131_74, e131_76, e131_77, e131_78, e131_81, e131_83, e131_84, e131_85, e131_87, e131_88, e131_89, e131_92, gM_0, a_94, inb_n, ix_n, if_true, ne_eq, Nat.reduceEqDiff, not_false_eq_true, vM, clK_s, tl_s, tl_n, clr_i, clr_n, clr_a, nI_add, k_of, f1, f3, ep, eq, dv_n, rm_n, pk_div, rem_n, k_off]
        rw [← hfar]
        simp (disch := omega) only [e131_93, e131_96, e131_97, e131_98, e131_99, e131_102, e131_104, gM_0, a_94, inb_n, ix_n, if_true, ne_eq, Nat.reduceEqDiff, not_false_eq_true, vM, clK_s, tl_s, tl_n, clr_i, clr_n, clr_a, nI_add, hw, k_of, f4]
        have hv : lkV A az kz = spPl A kz (farO A az kz) + (if tF A az 4 = nI kz then nI 40 else nI 0) := rfl
        have hgo : ∀ yv : Int32, spPl A kz (farO A az kz) + yv = lkV A az kz → ∃ σ3, Rn E (d + 4) 131 113 [some (.ref 93), some (.int (nI az)), some (.int (oI bo)), some (.int mv), some (.int (nI kz)), some (.int (nI pz)), some (.int (nI qz)), w7] [.int yv, .int (spPl A kz (farO A az kz))] (shp, σ2) = some (some (.int (oI (lkF A az (r + 1) kz bo mv))), (shp, σ3)) ∧ Fr [108, 109] σ σ3 := by
          intro yv hy
          simp only [e131_113, e131_114, e131_116, e131_118, e131_119, gM_0, a_94, inb_n, ix_n, if_true, ne_eq, Nat.reduceEqDiff, not_false_eq_true, vM, clK_s, tl_s, tl_n, clr_i, clr_n, clr_a, nI_add, hy]
          by_cases hm : mv < lkV A az kz
          · have hm2 : ¬ lkV A az kz ≤ mv := Int32.not_le.mpr hm
            simp only [hm2, if_false, e131_122, e131_124, e131_127, e131_128, e131_129, e131_131, e131_132, e131_135, e131_137, e131_140, e131_141, e131_142, e131_145, gM_0, a_94, inb_n, ix_n, if_true, ne_eq, Nat.reduceEqDiff, not_false_eq_true, vM, clK_s, tl_s, tl_n, clr_i, clr_n, clr_a, nI_add, lkF, hz2, hs, hm, and_self]
            exact ih (kz + 1) (some kz) _ σ2 _ _ _ (by omega) hf3
          · have hm2 : lkV A az kz ≤ mv := Int32.not_lt.mp hm
            simp only [hm2, if_true, e131_122, e131_124, e131_127, e131_128, e131_129, e131_131, e131_132, e131_135, e131_137, e131_140, e131_141, e131_142, e131_145, gM_0, a_94, inb_n, ix_n, if_true, ne_eq, Nat.reduceEqDiff, not_false_eq_true, vM, clK_s, tl_s, tl_n, clr_i, clr_n, clr_a, nI_add, lkF, hm, and_false, if_false]
            exact ih (kz + 1) bo mv σ2 _ _ _ (by omega) hf3
        by_cases hl : tF A az 4 = nI kz
        · simp only [hl, not_true_eq_false, if_false, e131_107, e131_109, e131_112]
          exact hgo _ (by rw [hv, if_pos hl])
        · simp only [hl, not_false_eq_true, if_true, e131_107, e131_109, e131_112]
          exact hgo _ (by rw [hv, if_neg hl])
theorem k_looksAt {az : Nat} (hM : MR (σ 94) A) (hW : WFp A) (hX : WFx A) (ha : az < tN A) :
    ∃ σ2, Rn E (d + 4) 131 0 [some (.ref 93), some (.int (nI az)), none, none, none, none, none, none] [] (shp, σ) = some (some (.int (oI (spLk A az))), (shp, σ2)) ∧ Fr [108, 109] σ σ2 := by
  have h8 := hW.1
  have f0 := hM.2.1 az ha 0 (by omega)
  simp (disch := omega) only [e131_0, e131_1, e131_2, e131_3, e131_6, e131_7, e131_10, e131_11, e131_12, e131_13, e131_14, e131_15, e131_16, e131_17, gM_0, a_94, inb_n, ix_n, if_true, ne_eq, Nat.reduceEqDiff, not_false_eq_true, vM, clK_s, tl_s, tl_n, clr_i, clr_n, clr_a, nI_add, k_of, f0, spLk]
  by_cases hk : tF A az 0 = nI 3
  · simp only [hk, not_true_eq_false, if_false, if_true, oI]
    exact ⟨σ, rfl, Fr.rf⟩
  · simp only [hk, not_false_eq_true, if_false, if_true]
    exact k_looksAt_l hM hW hX ha (tN A) 0 none (-1) σ none none none (by omega) Fr.rf
theorem oI_eq {o : Option Nat} {kz : Nat} (h : ∀ jz, o = some jz → jz < 2 ^ 31) (hk : kz < 2 ^ 31) : (oI o = nI kz) ↔ o = some kz := by
  cases o with
  | none =>
    refine iff_of_false (fun z => ?_) (fun z => by cases z)
    have z1 : (-1 : Int32) = nI kz := z
    have := congrArg Int32.toInt z1
    rw [nI_m1, nI_toInt hk] at this
    omega
  | some jz =>
    show nI jz = nI kz ↔ _
    rw [nI_lt2 (h jz rfl) hk]
    simp
theorem spLk_31 {az : Nat} (hW : WFp A) : ∀ jz, spLk A az = some jz → jz < 2 ^ 31 := fun jz h => by have := spLk_lt h; have := hW.1; omega
theorem k_eyesOf_l {oz : Nat} (hM : MR (σ 94) A) (hW : WFp A) (hX : WFx A) (ho : oz < tN A) : ∀ r kz (av : Int32) (σ1 : Nat → Nat → Int32), kz + r = tN A → Fr [108, 109] σ σ1 →
    ∃ σ2, Rn E (d + 5) 132 4 [some (.ref 93), some (.int (nI oz)), some (.int av), some (.int (nI kz))] [] (shp, σ1) = some (some (.int (mkF (fun kz => decide (spLk A kz = some oz)) r kz av)), (shp, σ2)) ∧ Fr [108, 109] σ σ2 := by
  have h8 := hW.1
  intro r
  induction r with
  | zero =>
    intro kz av σ1 hk hf
    have e0 : σ1 94 0 = nI (tN A) := by rw [hf 94 (by decide)]; exact hM.1
    have h1 : tN A ≤ kz := by omega
    exact ⟨σ1, by simp (disch := omega) only [e132_0, e132_1, e132_2, e132_3, e132_4, e132_5, e132_6, e132_9, e132_10, e132_11, e132_14, e132_15, e132_16, e132_17, e132_20, e132_21, e132_24, e132_25, e132_26, e132_27, e132_30, e132_31, e132_32, e132_33, e132_36, e132_39, e132_40, gM_0, a_94, inb_n, ix_n, if_true, ne_eq, Nat.reduceEqDiff, not_false_eq_true, vM, clK_s, tl_s, tl_n, clr_i, clr_n, clr_a, nI_add, e0, nI_leI, h1, mkF], hf⟩
  | succ r ih =>
    intro kz av σ1 hk hf
    have e94 : σ1 94 = σ 94 := hf 94 (by decide)
    have hM1 : MR (σ1 94) A := by rw [e94]; exact hM
    have e0 := hM1.1
    have hkz : kz < tN A := by omega
    have h1 : ¬ tN A ≤ kz := by omega
    obtain ⟨σ2, hw, hf2⟩ := k_looksAt (E := E) (d := d) hM1 hW hX hkz
    have hf3 := hf.tr hf2
    rw [e132_4]
    simp (disch := omega) only [e132_5, e132_6, e132_9, e132_10, e132_11, e132_14, e132_15, e132_16, e132_17, e132_20, e132_21, gM_0, a_94, inb_n, ix_n, if_true, ne_eq, Nat.reduceEqDiff, not_false_eq_true, vM, clK_s, tl_s, tl_n, clr_i, clr_n, clr_a, nI_add, e0, nI_leI, h1, if_false, hw, oI_eq (spLk_31 hW)]
    by_cases hl : spLk A kz = some oz
    · simp only [hl, not_true_eq_false, if_false, e132_24, e132_25, e132_26, e132_27, e132_30, e132_31, e132_32, e132_33, e132_36, gM_0, a_94, inb_n, ix_n, if_true, ne_eq, Nat.reduceEqDiff, not_false_eq_true, vM, clK_s, tl_s, tl_n, clr_i, clr_n, clr_a, nI_add, mkF, decide_true]
      exact ih (kz + 1) _ σ2 (by omega) hf3
    · simp only [hl, not_false_eq_true, if_true, e132_24, e132_25, e132_26, e132_27, e132_30, e132_31, e132_32, e132_33, e132_36, gM_0, a_94, inb_n, ix_n, if_true, ne_eq, Nat.reduceEqDiff, not_false_eq_true, vM, clK_s, tl_s, tl_n, clr_i, clr_n, clr_a, nI_add, mkF, decide_false, Bool.false_eq_true, if_false, or_0]
      exact ih (kz + 1) _ σ2 (by omega) hf3
theorem k_eyesOf {oz : Nat} (hM : MR (σ 94) A) (hW : WFp A) (hX : WFx A) (ho : oz < tN A) :
    ∃ σ2, Rn E (d + 5) 132 0 [some (.ref 93), some (.int (nI oz)), none, none] [] (shp, σ) = some (some (.int (spEy A oz)), (shp, σ2)) ∧ Fr [108, 109] σ σ2 := by
  simp only [e132_0, e132_1, e132_2, e132_3, clr_i, clr_n]
  exact k_eyesOf_l hM hW hX ho (tN A) 0 (nI 0) σ (by omega) Fr.rf
theorem bit_n : ∀ mz, mz < 256 → ∀ kz, kz < 8 → (nI mz >>> (nI kz &&& 31)) &&& nI 1 = nI (mz / 2 ^ kz % 2) := by decide +kernel
theorem k_many_l {mz : Nat} (hm : mz < 256) : ∀ r kz az, kz + r = 8 → az ≤ kz → Rn E d 133 4 [some (.int (nI mz)), some (.int (nI az)), some (.int (nI kz))] [] S = some (some (.int (nI (az + (List.range' kz r).foldr (fun jz sz => mz / 2 ^ jz % 2 + sz) 0))), S) := by
  intro r
  induction r with
  | zero =>
    intro kz az hk ha
    have h1 : 8 ≤ kz := by omega
    simp (disch := omega) only [e133_0, e133_1, e133_2, e133_3, e133_4, e133_5, e133_7, e133_10, e133_11, e133_12, e133_13, e133_14, e133_15, e133_16, e133_17, e133_18, e133_21, e133_24, e133_25, nI_leI, h1, if_true, List.range', List.foldr, Nat.add_zero]
  | succ r ih =>
    intro kz az hk ha
    have h1 : ¬ 8 ≤ kz := by omega
    have h2 := bit_n mz hm kz (by omega)
    have h3 : mz / 2 ^ kz % 2 < 2 := Nat.mod_lt _ (by omega)
    rw [e133_4]
    simp (disch := omega) only [e133_0, e133_1, e133_2, e133_3, e133_5, e133_7, e133_10, e133_11, e133_12, e133_13, e133_14, e133_15, e133_16, e133_17, e133_18, e133_21, e133_24, e133_25, nI_leI, h1, if_false, h2, clr_i, nI_add]
    rw [ih (kz + 1) _ (by omega) (by omega), List.range'_succ, List.foldr_cons, Nat.add_assoc]
theorem popc_f : ∀ mz, mz < 256 → 0 + (List.range' 0 8).foldr (fun jz sz => mz / 2 ^ jz % 2 + sz) 0 = popc mz := by decide +kernel
theorem k_many {mz : Nat} (hm : mz < 256) : Rn E d 133 0 [some (.int (nI mz)), none, none] [] S = some (some (.int (nI (popc mz))), S) := by
  simp only [e133_0, e133_1, e133_2, e133_3, clr_i, clr_n]
  rw [k_many_l hm 8 0 0 (by omega) (by omega)]
  rw [popc_f mz hm]
theorem k_grows {cz : Nat} {gv : Int32} (hc : cz < 6) : Rn E d 126 0 [some (.ref 93), some (.int (nI cz)), some (.int gv), none] [] S = some (some (.int (grK (nI cz) gv)), S) := by
  have L : ∀ az bz : Nat, az < 200 → bz < 200 → (nI az = nI bz ↔ az = bz) := fun az bz h1 h2 => nI_eq (by omega) (by omega)
  have key : ∀ xv : Int32, xv = (if gv ≤ nI 0 then (-2) else gv) → Rn E d 126 10 [some (.ref 93), some (.int (nI cz)), some (.int gv), none] [.int xv] S = some (some (.int (grK (nI cz) gv)), S) := by
    intro xv hx
    simp only [e126_10, e126_11, clr_i]
    rw [e126_12, swZ_n (by omega) (by decide)]
    unfold grK
    rw [← hx]
    match cz, hc with
    | 0, _ => show Rn E d 126 64 _ _ _ = _; simp (disch := omega) only [e126_48, e126_49, e126_50, e126_51, e126_52, e126_53, e126_54, e126_55, e126_56, e126_57, e126_58, e126_59, e126_60, e126_61, e126_62, e126_63, e126_64, e126_65, L, Nat.reduceEqDiff, if_false, if_true]
    | 1, _ => show Rn E d 126 48 _ _ _ = _; simp (disch := omega) only [e126_48, e126_49, e126_50, e126_51, e126_52, e126_53, e126_54, e126_55, e126_56, e126_57, e126_58, e126_59, e126_60, e126_61, e126_62, e126_63, e126_64, e126_65, L, Nat.reduceEqDiff, if_false, if_true]
    | 2, _ => show Rn E d 126 52 _ _ _ = _; simp (disch := omega) only [e126_48, e126_49, e126_50, e126_51, e126_52, e126_53, e126_54, e126_55, e126_56, e126_57, e126_58, e126_59, e126_60, e126_61, e126_62, e126_63, e126_64, e126_65, L, Nat.reduceEqDiff, if_false, if_true, dv_n]
    | 3, _ => show Rn E d 126 48 _ _ _ = _; simp (disch := omega) only [e126_48, e126_49, e126_50, e126_51, e126_52, e126_53, e126_54, e126_55, e126_56, e126_57, e126_58, e126_59, e126_60, e126_61, e126_62, e126_63, e126_64, e126_65, L, Nat.reduceEqDiff, if_false, if_true]
    | 4, _ => show Rn E d 126 56 _ _ _ = _; simp (disch := omega) only [e126_48, e126_49, e126_50, e126_51, e126_52, e126_53, e126_54, e126_55, e126_56, e126_57, e126_58, e126_59, e126_60, e126_61, e126_62, e126_63, e126_64, e126_65, L, Nat.reduceEqDiff, if_false, if_true, dv_n]
    | 5, _ => show Rn E d 126 62 _ _ _ = _; simp (disch := omega) only [e126_48, e126_49, e126_50, e126_51, e126_52, e126_53, e126_54, e126_55, e126_56, e126_57, e126_58, e126_59, e126_60, e126_61, e126_62, e126_63, e126_64, e126_65, L, Nat.reduceEqDiff, if_false, if_true]
  simp only [e126_0, e126_1]
  by_cases hg : gv ≤ nI 0
  · simp only [hg, if_true, e126_4, e126_5, e126_8]
    exact key _ (by rw [if_pos hg])
  · simp only [hg, if_false, e126_4, e126_5, e126_8]
    exact key _ (by rw [if_neg hg])
theorem k_worth {kz : Nat} (hM : MR (σ 94) A) (hW : WFp A) (hk : kz < tN A) : Rn E (d + 1) 127 0 [some (.ref 93), some (.int (nI kz)), none] [] (shp, σ) = some (some (.int (woK (tF A kz 0) (tF A kz 2))), (shp, σ)) := by
  have h8 := hW.1
  have L : ∀ az bz : Nat, az < 200 → bz < 200 → (nI az = nI bz ↔ az = bz) := fun az bz h1 h2 => nI_eq (by omega) (by omega)
  obtain ⟨cz, hc, ec⟩ := (hW.2.1 kz hk).2.1
  have f0 := hM.2.1 kz hk 0 (by omega)
  have f2 := hM.2.1 kz hk 2 (by omega)
  simp (disch := omega) only [e127_0, e127_1, e127_2, e127_3, e127_6, e127_7, e127_8, e127_9, e127_10, vM, k_of, clK_s, tl_s, clr_i, f0, f2, ec]
  rw [e127_13, swZ_n (by omega) (by decide)]
  unfold woK
  match cz, hc with
  | 0, _ => show Rn E (d + 1) 127 72 _ _ _ = _; simp (disch := omega) only [e127_48, e127_49, e127_50, e127_51, e127_52, e127_53, e127_54, e127_55, e127_56, e127_57, e127_58, e127_61, e127_62, e127_63, e127_64, e127_67, e127_68, e127_69, e127_70, e127_71, e127_72, e127_73, L, Nat.reduceEqDiff, if_false, if_true]
  | 1, _ => show Rn E (d + 1) 127 48 _ _ _ = _; simp (disch := omega) only [e127_48, e127_49, e127_50, e127_51, e127_52, e127_53, e127_54, e127_55, e127_56, e127_57, e127_58, e127_61, e127_62, e127_63, e127_64, e127_67, e127_68, e127_69, e127_70, e127_71, e127_72, e127_73, L, Nat.reduceEqDiff, if_false, if_true]
  | 2, _ => show Rn E (d + 1) 127 58 _ _ _ = _; simp (disch := omega) only [e127_48, e127_49, e127_50, e127_51, e127_52, e127_53, e127_54, e127_55, e127_56, e127_57, e127_58, e127_61, e127_62, e127_63, e127_64, e127_67, e127_68, e127_69, e127_70, e127_71, e127_72, e127_73, L, Nat.reduceEqDiff, if_false, if_true]
  | 3, _ => show Rn E (d + 1) 127 52 _ _ _ = _; simp (disch := omega) only [e127_48, e127_49, e127_50, e127_51, e127_52, e127_53, e127_54, e127_55, e127_56, e127_57, e127_58, e127_61, e127_62, e127_63, e127_64, e127_67, e127_68, e127_69, e127_70, e127_71, e127_72, e127_73, L, Nat.reduceEqDiff, if_false, if_true]
  | 4, _ => show Rn E (d + 1) 127 64 _ _ _ = _; simp (disch := omega) only [e127_48, e127_49, e127_50, e127_51, e127_52, e127_53, e127_54, e127_55, e127_56, e127_57, e127_58, e127_61, e127_62, e127_63, e127_64, e127_67, e127_68, e127_69, e127_70, e127_71, e127_72, e127_73, L, Nat.reduceEqDiff, if_false, if_true]
  | 5, _ => show Rn E (d + 1) 127 70 _ _ _ = _; simp (disch := omega) only [e127_48, e127_49, e127_50, e127_51, e127_52, e127_53, e127_54, e127_55, e127_56, e127_57, e127_58, e127_61, e127_62, e127_63, e127_64, e127_67, e127_68, e127_69, e127_70, e127_71, e127_72, e127_73, L, Nat.reduceEqDiff, if_false, if_true]
end Eyes
