/-! THE CLASS READS: words, and a whole text -/
def wdB (tp : Nat → Nat) : Nat → List Int32 → Bool
  | _, [] => true
  | fz, a :: r => decide ((nI (tp fz)).toInt8.toInt32 = a) && wdB tp (fz + 1) r
abbrev wd4 (tp : Nat → Nat) (tk : Tk) (az bz cz dz : Nat) : Prop := tk.1 = 1 ∧ tk.2.2 - tk.2.1 = (if dz = 0 then 3 else 4) ∧ tp tk.2.1 = az ∧ tp (tk.2.1 + 1) = bz ∧ tp (tk.2.1 + 2) = cz ∧ (dz = 0 ∨ tp (tk.2.1 + 3) = dz)
def kyF (tp : Nat → Nat) (tk : Tk) : Option Nat := if wd4 tp tk 112 117 108 108 then some 0 else if wd4 tp tk 102 101 101 0 then some 1 else if wd4 tp tk 102 105 110 101 then some 2 else none
def spE (key : Nat) (x : Option (Nat ⊕ PS)) : Nat ⊕ Tx := match x with
  | none => .inl 0
  | some (.inl pz) => .inl pz
  | some (.inr s) => if s.1.1 = 0 then .inr (key, s.2.2, s.2.1) else .inl s.1.2.1
def spP (tp : Nat → Nat) (n : Nat) : Nat ⊕ Tx := match kyF tp (tok tp n (0, 0, 0)) with
  | none => .inl (tok tp n (0, 0, 0)).2.1
  | some key => spE key (PF tp n key 2000 0 0 0 (tok tp n (tok tp n (0, 0, 0)), [], 0))
section Cparse
variable {E : aE} {D n : Nat} {tp : Nat → Nat} {σ : Nat → Nat → Int32} {tk : Tk} {h : Nat}
theorem kyF_lt {key : Nat} (hk : kyF tp tk = some key) : key < 3 := by
  unfold kyF at hk
  split at hk
  · cases hk; omega
  · split at hk
    · cases hk; omega
    · split at hk
      · cases hk; omega
      · cases hk
theorem kyF_1 {key : Nat} (hk : kyF tp tk = some key) : tk.1 = 1 := by
  unfold kyF at hk
  by_cases h1 : wd4 tp tk 112 117 108 108
  · exact h1.1
  · rw [if_neg h1] at hk
    by_cases h2 : wd4 tp tk 102 101 101 0
    · exact h2.1
    · rw [if_neg h2] at hk
      by_cases h3 : wd4 tp tk 102 105 110 101
      · exact h3.1
      · rw [if_neg h3] at hk; cases hk
theorem c_isWord_1 {d : Nat} (hT : TP σ n tp) (hC : CT σ tk) (hw : tkW tp n tk) (hs : isStr h) (hfb : tk.2.1 < tk.2.2) (hlen : tk.2.2 - tk.2.1 = (sX h).length) : ∀ (l : List Int32) (i : Nat), (sX h).drop i = l → i ≤ (sX h).length → Rn E (d + 3 + 1) 12 32 [some (.ref 34), some (.ref h), some (.int (nI 1)), some (.int (nI i))] [] (shp, σ) = some (some (.int (bI (wdB tp (tk.2.1 + i) l))), (shp, σ)) := by
  have h4 := (sX_l hs).2.1
  obtain ⟨k1, k2, k3⟩ := hC
  have w2 := hw.2.1
  have h96 := hT.1
  intro l
  induction l with
  | nil =>
    intro i hd hi
    have hl : (sX h).length ≤ i := List.drop_eq_nil_iff.mp hd
    rw [e12_32]
    simp (disch := first | exact hs | omega) only [e12_33, e12_36, e12_37, e12_38, e12_41, e12_75, e12_76, ↓reduceIte, inb_n, ix_n, if_true, ne_eq, Nat.reduceEqDiff, not_false_eq_true, clK_s, tl_s, tl_n, clr_i, clr_n, clr_a, nI_add, n10, vSt, j_length hs, nI_leI, hl, wdB, rz_1]
  | cons a r ih =>
    intro i hd hi
    have hlt : i < (sX h).length := by
      rcases Nat.lt_or_ge i (sX h).length with hq | hq
      · exact hq
      · rw [List.drop_eq_nil_of_le hq] at hd; cases hd
    have hn : ¬ (sX h).length ≤ i := by omega
    have ha : (sX h).getD i 0 = a := by
      rw [List.drop_eq_getElem_cons hlt] at hd
      rw [List.getD_eq_getElem?_getD, List.getElem?_eq_getElem hlt]
      exact (List.cons.inj hd).1
    have hr : (sX h).drop (i + 1) = r := by
      rw [List.drop_eq_getElem_cons hlt] at hd
      exact (List.cons.inj hd).2
    obtain ⟨hb, eb⟩ := hT.at (show tk.2.1 + i < n by omega)
    have hc := j_charAt (E := E) (d := d) (σ := σ) hs hlt
    rw [ha] at hc
    have hgo : Rn E (d + 3 + 1) 12 32 [some (.ref 34), some (.ref h), some (.int (nI 1)), some (.int (nI i))] [] (shp, σ) = Rn E (d + 3 + 1) 12 60 [some (.ref 34), some (.ref h), some (.int (nI 1)), some (.int (nI i))] [.int a, .int ((nI (tp (tk.2.1 + i))).toInt8.toInt32)] (shp, σ) := by
      rw [e12_32]
      simp (disch := first | exact hs | omega) only [e12_33, e12_36, e12_37, e12_38, e12_41, e12_44, e12_45, e12_48, e12_49, e12_52, e12_53, e12_54, e12_55, e12_56, e12_57, ↓reduceIte, inb_n, ix_n, if_true, ne_eq, Nat.reduceEqDiff, not_false_eq_true, clK_s, tl_s, tl_n, clr_i, clr_n, clr_a, nI_add, n10, vSt, j_length hs, nI_leI, hn, gR_0, gR_3, k2, b_35, eb, hc]
    rw [hgo, wdB]
    by_cases hq : (nI (tp (tk.2.1 + i))).toInt8.toInt32 = a
    · rw [decide_eq_true hq, Bool.true_and, show tk.2.1 + i + 1 = tk.2.1 + (i + 1) by omega, ← ih (i + 1) hr (by omega), e12_60, if_neg (fun z => z hq)]
      simp (disch := omega) only [e12_63, e12_64, e12_67, e12_68, e12_69, e12_72, ↓reduceIte, inb_n, ix_n, if_true, ne_eq, Nat.reduceEqDiff, not_false_eq_true, clK_s, tl_s, tl_n, clr_i, clr_n, clr_a, nI_add]
    · rw [decide_eq_false hq, Bool.false_and, e12_60, if_pos hq]
      simp (disch := omega) only [e12_67, e12_68, e12_69, e12_72, ↓reduceIte, inb_n, ix_n, if_true, ne_eq, Nat.reduceEqDiff, not_false_eq_true, clK_s, tl_s, tl_n, clr_i, clr_n, clr_a, nI_add]
      rw [e12_32]
      simp (disch := omega) only [e12_33, e12_75, e12_76, ↓reduceIte, inb_n, ix_n, if_true, ne_eq, Nat.reduceEqDiff, not_false_eq_true, clK_s, tl_s, tl_n, clr_i, clr_n, clr_a, nI_add, rz_0]
theorem c_isWord (hD : 4 ≤ D) (hT : TP σ n tp) (hC : CT σ tk) (hw : tkW tp n tk) (hs : isStr h) : Rn E D 12 0 [some (.ref 34), some (.ref h), none, none] [] (shp, σ) = some (some (.int (bI (decide (tk.1 = 1 ∧ tk.2.2 - tk.2.1 = (sX h).length) && wdB tp tk.2.1 (sX h)))), (shp, σ)) := by
  obtain ⟨d, rfl⟩ : ∃ d, D = d + 3 + 1 := ⟨D - 4, by omega⟩
  have h4 := (sX_l hs).2.1
  obtain ⟨k1, k2, k3⟩ := hC
  obtain ⟨w1, w2, w3, w4, w5, w6⟩ := hw
  have h96 := hT.1
  have hend : Rn E (d + 3 + 1) 12 28 [some (.ref 34), some (.ref h), none, none] [] (shp, σ) = some (some (.int (bI false)), (shp, σ)) := by
    simp (disch := omega) only [e12_28, e12_29, e12_30, e12_31, ↓reduceIte, inb_n, ix_n, if_true, ne_eq, Nat.reduceEqDiff, not_false_eq_true, clK_s, tl_s, tl_n, clr_i, clr_n, clr_a, nI_add]
    rw [e12_32]
    simp (disch := omega) only [e12_33, e12_75, e12_76, ↓reduceIte, inb_n, ix_n, if_true, ne_eq, Nat.reduceEqDiff, not_false_eq_true, clK_s, tl_s, tl_n, clr_i, clr_n, clr_a, nI_add, rz_0]
  by_cases h1 : tk.1 = 1
  · have k1' : σ 34 2 = nI 1 := by rw [k1, h1]
    by_cases h2 : tk.2.2 - tk.2.1 = (sX h).length
    · have h2' : nI (tk.2.2 - tk.2.1) = nI (sX h).length := by rw [h2]
      rw [decide_eq_true ⟨h1, h2⟩, Bool.true_and]
      refine Eq.trans ?_ (c_isWord_1 (E := E) (d := d) hT ⟨k1, k2, k3⟩ ⟨w1, w2, w3, w4, w5, w6⟩ hs (by omega) h2 (sX h) 0 rfl (by omega))
      simp (disch := first | exact hs | omega) only [e12_0, e12_1, e12_4, e12_5, e12_8, e12_9, e12_12, e12_13, e12_16, e12_17, e12_18, ↓reduceIte, inb_n, ix_n, if_true, ne_eq, Nat.reduceEqDiff, not_false_eq_true, clK_s, tl_s, tl_n, clr_i, clr_n, clr_a, nI_add, gR_2, gR_3, gR_4, k1', k2, k3, not_true_eq_false, pk_sub, vSt, j_length hs]
      rw [e12_21, if_neg (fun z => z h2')]
      simp (disch := omega) only [e12_24, e12_25, e12_28, e12_29, e12_30, e12_31, ↓reduceIte, inb_n, ix_n, if_true, ne_eq, Nat.reduceEqDiff, not_false_eq_true, clK_s, tl_s, tl_n, clr_i, clr_n, clr_a, nI_add]
    · have h2' : ¬ nI (tk.2.2 - tk.2.1) = nI (sX h).length := fun z => h2 ((nI_eq (by omega) (by omega)).mp z)
      rw [decide_eq_false (fun z => h2 z.2), Bool.false_and, ← hend]
      simp (disch := first | exact hs | omega) only [e12_0, e12_1, e12_4, e12_5, e12_8, e12_9, e12_12, e12_13, e12_16, e12_17, e12_18, e12_21, ↓reduceIte, inb_n, ix_n, if_true, ne_eq, Nat.reduceEqDiff, not_false_eq_true, clK_s, tl_s, tl_n, clr_i, clr_n, clr_a, nI_add, gR_2, gR_3, gR_4, k1', k2, k3, not_true_eq_false, pk_sub, vSt, j_length hs, h2']
  · have h1' : ¬ nI tk.1 = nI 1 := fun z => h1 ((nI_eq (by omega) (by omega)).mp z)
    rw [decide_eq_false (fun z => h1 z.1), Bool.false_and, ← hend]
    simp (disch := omega) only [e12_0, e12_1, e12_4, e12_5, ↓reduceIte, inb_n, ix_n, if_true, ne_eq, Nat.reduceEqDiff, not_false_eq_true, clK_s, tl_s, tl_n, clr_i, clr_n, clr_a, nI_add, gR_2, k1, h1']
theorem wd_4 {az bz cz dz : Nat} (hT : TP σ n tp) (hw : tkW tp n tk) (ha : az < 128) (hb : bz < 128) (hc : cz < 128) (hd : dz < 128) (h0 : dz ≠ 0) (hl : sX h = [nI az, nI bz, nI cz, nI dz]) : (decide (tk.1 = 1 ∧ tk.2.2 - tk.2.1 = (sX h).length) && wdB tp tk.2.1 (sX h)) = decide (wd4 tp tk az bz cz dz) := by
  have e4 : (sX h).length = 4 := by rw [hl]; rfl
  rw [e4]
  by_cases h1 : tk.1 = 1 ∧ tk.2.2 - tk.2.1 = 4
  · rw [decide_eq_true h1, Bool.true_and, hl]
    have w2 := hw.2.1
    have q0 := s8_eq (tp tk.2.1) (hT.at (by omega)).1 az ha
    have q1 := s8_eq (tp (tk.2.1 + 1)) (hT.at (by omega)).1 bz hb
    have q2 := s8_eq (tp (tk.2.1 + 1 + 1)) (hT.at (by omega)).1 cz hc
    have q3 := s8_eq (tp (tk.2.1 + 1 + 1 + 1)) (hT.at (by omega)).1 dz hd
    unfold wdB wdB wdB wdB wdB
    rw [Bool.eq_iff_iff]
    simp only [Bool.and_eq_true, decide_eq_true_eq, q0, q1, q2, q3, and_true]
    constructor
    · intro z
      exact ⟨h1.1, by rw [if_neg h0]; exact h1.2, z.1, z.2.1, z.2.2.1, Or.inr z.2.2.2⟩
    · intro z
      obtain ⟨_, _, z1, z2, z3, z4⟩ := z
      rcases z4 with z4 | z4
      · exact absurd z4 h0
      · exact ⟨z1, z2, z3, z4⟩
  · rw [decide_eq_false h1, Bool.false_and, decide_eq_false]
    intro z
    have z2 := z.2.1
    rw [if_neg h0] at z2
    exact h1 ⟨z.1, z2⟩
theorem wd_3 {az bz cz : Nat} (hT : TP σ n tp) (hw : tkW tp n tk) (ha : az < 128) (hb : bz < 128) (hc : cz < 128) (hl : sX h = [nI az, nI bz, nI cz]) : (decide (tk.1 = 1 ∧ tk.2.2 - tk.2.1 = (sX h).length) && wdB tp tk.2.1 (sX h)) = decide (wd4 tp tk az bz cz 0) := by
  have e4 : (sX h).length = 3 := by rw [hl]; rfl
  rw [e4]
  by_cases h1 : tk.1 = 1 ∧ tk.2.2 - tk.2.1 = 3
  · rw [decide_eq_true h1, Bool.true_and, hl]
    have w2 := hw.2.1
    have q0 := s8_eq (tp tk.2.1) (hT.at (by omega)).1 az ha
    have q1 := s8_eq (tp (tk.2.1 + 1)) (hT.at (by omega)).1 bz hb
    have q2 := s8_eq (tp (tk.2.1 + 1 + 1)) (hT.at (by omega)).1 cz hc
    unfold wdB wdB wdB wdB
    rw [Bool.eq_iff_iff]
    simp only [Bool.and_eq_true, decide_eq_true_eq, q0, q1, q2, and_true]
    constructor
    · intro z
      exact ⟨h1.1, h1.2, z.1, z.2.1, z.2.2, Or.inl rfl⟩
    · intro z
      obtain ⟨_, _, z1, z2, z3, z4⟩ := z
      exact ⟨z1, z2, z3⟩
  · rw [decide_eq_false h1, Bool.false_and, decide_eq_false]
    intro z
    exact h1 ⟨z.1, z.2.1⟩
def oK : Option Nat → Int32
  | none => (-1)
  | some kz => nI kz
/-- what reading leaves -/
def CG (σ : Nat → Nat → Int32) (h : Nat) (tx : Tx) : Prop := σ h 1 = nI tx.2.2.length ∧ σ h 2 = nI tx.1 ∧ σ h 3 = nI tx.2.1 ∧ ∀ i w xv, tx.2.2[i]? = some (w, xv) → σ (h + 1) i = kodP tx.1 (w, xv)
def spV (x : Nat ⊕ Tx) : Int32 := match x with
  | .inl pz => nI pz
  | .inr _ => (-1)
theorem tok_0 {a b : Nat} : tok tp n (0, a, 0) = tok tp n (3, b, 0) := by
  unfold tok
  simp only [show ¬ ((0 : Nat) = 1 ∨ (0 : Nat) = 2) by decide, show ¬ ((3 : Nat) = 1 ∨ (3 : Nat) = 2) by decide, false_and, if_false]
theorem sp_ok (h96 : n ≤ 96) : (∀ pz, spP tp n = .inl pz → pz ≤ n) ∧ (∀ tx, spP tp n = .inr tx → okTx tx) := by
  obtain ⟨t1, t2⟩ := tok_w (tp := tp) (n := n) (tk := (0, 0, 0)) (Nat.zero_le _)
  obtain ⟨t3, t4⟩ := tok_w (tp := tp) (n := n) (tk := tok tp n (0, 0, 0)) t1.2.1
  have hW : PW tp n (tok tp n (tok tp n (0, 0, 0)), [], 0) := ⟨t3, Nat.zero_le _, Nat.zero_le _⟩
  unfold spP
  cases hk : kyF tp (tok tp n (0, 0, 0)) with
  | none =>
    exact ⟨fun pz hq => by cases hq; exact t1.1, fun tx hq => by cases hq⟩
  | some key =>
    have hk3 := kyF_lt hk
    show (∀ pz, spE key _ = .inl pz → pz ≤ n) ∧ (∀ tx, spE key _ = .inr tx → okTx tx)
    cases hF : PF tp n key 2000 0 0 0 (tok tp n (tok tp n (0, 0, 0)), [], 0) with
    | none => exact ⟨fun pz hq => by cases hq; omega, fun tx hq => by cases hq⟩
    | some r =>
      cases r with
      | inl pz =>
        have := PF_f _ _ _ _ _ _ (by omega) hF hW
        exact ⟨fun p2 hq => by cases hq; exact this, fun tx hq => by cases hq⟩
      | inr s =>
        obtain ⟨⟨g0, g1, g2⟩, g3, g4, g5, g6, l, g7, g8, g9, g10⟩ := PF_b _ _ _ _ _ _ (by omega) hF hW
        have hl : s.2.1 = l := by rw [g7]; rfl
        unfold spE
        show (∀ pz, (if s.1.1 = 0 then _ else _) = _ → _) ∧ (∀ tx, (if s.1.1 = 0 then _ else _) = _ → _)
        by_cases h0 : s.1.1 = 0
        · rw [if_pos h0]
          refine ⟨fun pz hq => (by cases hq), fun tx hq => ?_⟩
          cases hq
          have n1 := g0.1
          refine ⟨hk3, ?_, ?_, ?_, ?_⟩
          · show s.2.1.length ≤ 96; omega
          · show dpt s.2.1 0 = true
            rw [hl]
            have := g9 (by omega) [] 0
            rw [List.append_nil] at this
            rw [this]; rfl
          · show s.2.2 ≤ 96; omega
          · show ∀ pp ∈ s.2.1, okP key pp
            rw [hl]; exact g8
        · rw [if_neg h0]
          refine ⟨fun pz hq => ?_, fun tx hq => by cases hq⟩
          cases hq
          exact g0.1
end Cparse
