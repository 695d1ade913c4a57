/-! ONE STEP, KIND BY KIND -/
theorem chk_own : mtb.all (fun q => decide (q.1.cls = ownN q.2.2.2.2)) = true := by decide +kernel
theorem chk_cst : cstT.all (fun e => decide (lw_tbl[e.2.2.2]? = some (.constant (ownN e.1) e.2.1 e.2.2.1)) && goodWord (.constant (ownN e.1) e.2.1 e.2.2.1)) = true := by decide +kernel
theorem chk_lng : lngT.all (fun e => decide (lw_tbl[e.2.2.2]? = some (.constantLong (ownN e.1) e.2.1 e.2.2.1)) && goodWord (.constantLong (ownN e.1) e.2.1 e.2.2.1)) = true := by decide +kernel
theorem cst_ok {own x : Nat} {e : Nat × Nat × Int32 × Nat} (h : cstE own x = some e) : Cond.constant (ownN own) x e.2.2.1 ∈ gtb := by
  obtain ⟨h1, h2⟩ := find_ok h
  have h3 := List.all_eq_true.mp chk_cst e h1
  simp only [Bool.and_eq_true, decide_eq_true_eq, beq_iff_eq] at h2 h3
  rw [← h2.1, ← h2.2]
  exact gtb_in h3.1 h3.2
theorem lng_ok {own x : Nat} {e : Nat × Nat × Int64 × Nat} (h : lngE own x = some e) : Cond.constantLong (ownN own) x e.2.2.1 ∈ gtb := by
  obtain ⟨h1, h2⟩ := find_ok h
  have h3 := List.all_eq_true.mp chk_lng e h1
  simp only [Bool.and_eq_true, decide_eq_true_eq, beq_iff_eq] at h2 h3
  rw [← h2.1, ← h2.2]
  exact gtb_in h3.1 h3.2
section Steps
variable {Γ : aG} {d mi : Nat} {q : aMt} {pc n : Nat} {i : Instr} {L : aLo} {st : List Value} {S : aSt} {o : aOut}
theorem stK_ok (h : stK d mi q pc i n L st S = some o) (hd : decode q.2.1 pc = .ok (i, n)) : aOk Γ d mi q pc L st S o := by
  unfold stK at h
  split at h
  · split at h
    · rename_i hn; subst hn
      exact aOk.of h (aStep.pure fun p l e R s m args below meth c H locs cells slots Q ls hC hl k => lv_iconst hC.1 hC.2.1 hd rfl k)
    · cases h
  · split at h
    · rename_i hn; subst hn
      exact aOk.of h (aStep.pure fun p l e R s m args below meth c H locs cells slots Q ls hC hl k => lv_bipush hC.1 hC.2.1 hd rfl k)
    · cases h
  · split at h
    · rename_i hn; subst hn
      exact aOk.of h (aStep.pure fun p l e R s m args below meth c H locs cells slots Q ls hC hl k => lv_sipush hC.1 hC.2.1 hd rfl k)
    · cases h
  · split at h
    · rename_i hn; subst hn
      exact aOk.of h (aStep.pure fun p l e R s m args below meth c H locs cells slots Q ls hC hl k => lv_lconst hC.1 hC.2.1 hd rfl k)
    · cases h
  · split at h
    · rename_i hn; subst hn
      split at h
      · rename_i ee he
        exact aOk.of h (aStep.pure fun p l e R s m args below meth c H locs cells slots Q ls hC hl k => lv_ldc hC.1 hC.2.1 hC.2.2.2.1 (hC.2.2.2.2.2.1 _ (by rw [hC.2.2.2.2.2.2.2.2]; exact cst_ok he)) hd k)
      · split at h
        · rename_i ee he
          obtain ⟨h1, h2⟩ := find_ok he
          simp only [Bool.and_eq_true, beq_iff_eq] at h2
          refine aOk.of h (aStep.pure fun p l e R s m args below meth c H locs cells slots Q ls hC hl k => ?_)
          have hv := hC.2.2.2.2.2.2.1.2.2.1 ee h1
          rw [h2.1, h2.2, ← hC.2.2.2.2.2.2.2.2] at hv
          refine va_ldcS hC.1 hC.2.1 hC.2.2.2.1 hv hd ?_
          have e1 : adr Γ (1010 + ee.2.2.1) = gX Γ (1010 + ee.2.2.1) := by unfold adr; rw [if_neg (by omega)]
          rw [← e1]
          exact k
        · cases h
    · cases h
  · split at h
    · rename_i hn; subst hn
      split at h
      · rename_i ee he
        exact aOk.of h (aStep.pure fun p l e R s m args below meth c H locs cells slots Q ls hC hl k => lv_ldcw hC.1 hC.2.1 hC.2.2.2.1 (hC.2.2.2.2.2.1 _ (by rw [hC.2.2.2.2.2.2.2.2]; exact cst_ok he)) hd k)
      · cases h
    · cases h
  · split at h
    · rename_i hn; subst hn
      split at h
      · rename_i ee he
        exact aOk.of h (aStep.pure fun p l e R s m args below meth c H locs cells slots Q ls hC hl k => lv_ldc2 hC.1 hC.2.1 hC.2.2.2.1 (hC.2.2.2.2.2.1 _ (by rw [hC.2.2.2.2.2.2.2.2]; exact lng_ok he)) hd k)
      · cases h
    · cases h
  · cases h
theorem ldI_ok {k : Nat} {w : Value} (h : ldI L k = some w) : ∃ x, w = .int x ∧ L[k]? = some (some (.int x)) := by
  unfold ldI at h
  split at h
  · rename_i x hx
    cases h
    exact ⟨x, rfl, hx⟩
  · cases h
theorem ldA_ok {k : Nat} {w : Value} (h : ldA L k = some w) : ∃ x, w = .ref x ∧ L[k]? = some (some (.ref x)) := by
  unfold ldA at h
  split at h
  · rename_i x hx
    cases h
    exact ⟨x, rfl, hx⟩
  · cases h
theorem ldL_ok {k : Nat} {w : Value} (h : ldL L k = some w) : ∃ x, w = .long x ∧ L[k]? = some (some (.long x)) := by
  unfold ldL at h
  split at h
  · rename_i x hx
    cases h
    exact ⟨x, rfl, hx⟩
  · cases h
theorem nxl_ok {v : Option Value} (h : nxl d mi pc L st S v = some o) : ∃ w, v = some w ∧ nx d mi pc L (w :: st) S = some o := by
  unfold nxl at h
  split at h
  · exact ⟨_, rfl, h⟩
  · cases h
theorem stL_ok (h : stL d mi pc i n L st S = some o) (hd : decode q.2.1 pc = .ok (i, n)) : aOk Γ d mi q pc L st S o := by
  unfold stL at h
  split at h
  · split at h
    · rename_i hn; subst hn
      obtain ⟨w, hw, h⟩ := nxl_ok h
      obtain ⟨x, rfl, hx⟩ := ldI_ok hw
      exact aOk.of h (aStep.pure fun p l e R s m args below meth c H locs cells slots Q ls hC hl k => lv_iload_n hC.1 hC.2.1 hd rfl (hl.2.2.2 _ _ hx) k)
    · cases h
  · split at h
    · rename_i hn; subst hn
      obtain ⟨w, hw, h⟩ := nxl_ok h
      obtain ⟨x, rfl, hx⟩ := ldI_ok hw
      exact aOk.of h (aStep.pure fun p l e R s m args below meth c H locs cells slots Q ls hC hl k => lv_iload hC.1 hC.2.1 hd (hl.2.2.2 _ _ hx) k)
    · cases h
  · split at h
    · rename_i hn; subst hn
      obtain ⟨w, hw, h⟩ := nxl_ok h
      obtain ⟨x, rfl, hx⟩ := ldA_ok hw
      exact aOk.of h (aStep.pure fun p l e R s m args below meth c H locs cells slots Q ls hC hl k => lv_aload_n hC.1 hC.2.1 hd rfl (hl.2.2.2 _ _ hx) k)
    · cases h
  · split at h
    · rename_i hn; subst hn
      obtain ⟨w, hw, h⟩ := nxl_ok h
      obtain ⟨x, rfl, hx⟩ := ldA_ok hw
      exact aOk.of h (aStep.pure fun p l e R s m args below meth c H locs cells slots Q ls hC hl k => lv_aload hC.1 hC.2.1 hd (hl.2.2.2 _ _ hx) k)
    · cases h
  · split at h
    · rename_i hn; subst hn
      obtain ⟨w, hw, h⟩ := nxl_ok h
      obtain ⟨x, rfl, hx⟩ := ldL_ok hw
      exact aOk.of h (aStep.pure fun p l e R s m args below meth c H locs cells slots Q ls hC hl k => lv_lload_n hC.1 hC.2.1 hd rfl (hl.2.2.2 _ _ hx) k)
    · cases h
  · split at h
    · rename_i hn; subst hn
      obtain ⟨w, hw, h⟩ := nxl_ok h
      obtain ⟨x, rfl, hx⟩ := ldL_ok hw
      exact aOk.of h (aStep.pure fun p l e R s m args below meth c H locs cells slots Q ls hC hl k => lv_lload hC.1 hC.2.1 hd (hl.2.2.2 _ _ hx) k)
    · cases h
  · cases h
theorem clr_ok {a : Option Value} {w : Value} (h : clr a = some w) : a = some w ∧ ¬ w.category = 2 := by
  unfold clr at h
  split at h
  · cases h
  · cases h
  · rename_i h1 h2
    subst h
    refine ⟨rfl, ?_⟩
    cases w with
    | long x => exact absurd rfl (h1 x)
    | double x => exact absurd rfl (h2 x)
    | _ => simp [Value.category]
theorem sto_ok : ∀ {k : Nat} {v : Value} {L L' : aLo}, sto k v L = some L' → k < L.length ∧ L'.length = L.length ∧ ∀ (j : Nat) (w : Value), L'[j]? = some (some w) → (j = k ∧ w = v) ∨ (¬ j = k ∧ L[j]? = some (some w) ∧ (j + 1 = k → ¬ w.category = 2)) := by
  intro k
  induction k with
  | zero =>
    intro v L L' h
    cases L with
    | nil => cases h
    | cons a L =>
      cases h
      refine ⟨by simp, by simp, fun j w hj => ?_⟩
      cases j with
      | zero => simp at hj; exact Or.inl ⟨rfl, hj.symm⟩
      | succ j => exact Or.inr ⟨by omega, by simpa using hj, by omega⟩
  | succ k ih =>
    intro v L L' h
    cases k with
    | zero =>
      match L, h with
      | [], h => cases h
      | [a], h => cases h
      | a :: b :: L, h =>
        cases h
        refine ⟨by simp, by simp, fun j w hj => ?_⟩
        cases j with
        | zero =>
          have h1 : clr a = some w := by simpa using hj
          obtain ⟨h2, h3⟩ := clr_ok h1
          exact Or.inr ⟨by omega, by simp [h2], fun _ => h3⟩
        | succ j =>
          cases j with
          | zero => simp at hj; exact Or.inl ⟨rfl, hj.symm⟩
          | succ j => exact Or.inr ⟨by omega, by simpa using hj, by omega⟩
    | succ k =>
      match L, h with
      | [], h => cases h
      | a :: L, h =>
        have h' : (sto (k + 1) v L).map (fun q => a :: q) = some L' := h
        cases h1 : sto (k + 1) v L with
        | none => rw [h1] at h'; cases h'
        | some L1 =>
          rw [h1] at h'
          cases h'
          obtain ⟨a1, a2, a3⟩ := ih h1
          refine ⟨by simp; omega, by simp; omega, fun j w hj => ?_⟩
          cases j with
          | zero => exact Or.inr ⟨by omega, by simpa using hj, by omega⟩
          | succ j =>
            rcases a3 j w (by simpa using hj) with ⟨b1, b2⟩ | ⟨b1, b2, b3⟩
            · exact Or.inl ⟨by omega, b2⟩
            · exact Or.inr ⟨by omega, by simpa using b2, fun z => b3 (by omega)⟩
def lal (Γ : aG) (L : aLo) : List (Nat × Value) := (List.range L.length).filterMap (fun i => (L.getD i none).map (fun v => (i, rl Γ v)))
theorem lal_mem {j : Nat} {w : Value} (h : L[j]? = some (some w)) : (j, rl Γ w) ∈ lal Γ L := by
  refine List.mem_filterMap.mpr ⟨j, List.mem_range.mpr (List.getElem?_eq_some_iff.mp h).1, ?_⟩
  simp [List.getD_eq_getElem?_getD, h]
theorem lal_has {nL : Nat} {ls : Array Slot} (h : lrel Γ nL L ls) : lv_has ls nL (lal Γ L) := by
  refine ⟨h.1, h.2.1, fun q hq => ?_⟩
  obtain ⟨i, -, hi⟩ := List.mem_filterMap.mp hq
  cases hL : L[i]? with
  | none => simp [List.getD_eq_getElem?_getD, hL] at hi
  | some a =>
    cases a with
    | none => simp [List.getD_eq_getElem?_getD, hL] at hi
    | some w =>
      simp [List.getD_eq_getElem?_getD, hL] at hi
      rw [← hi]
      exact h.2.2.2 i w hL
theorem rl_cat (hz : gZ Γ = .null ∨ ∃ t, gZ Γ = .ref t) (v : Value) : (rl Γ v).category = v.category := by
  cases v <;> try rfl
  show (gZ Γ).category = 1
  rcases hz with h | ⟨t, h⟩ <;> rw [h] <;> rfl
theorem lrel_sto {nL k : Nat} {v : Value} {L' : aLo} {ls ls' : Array Slot} (hz : gZ Γ = .null ∨ ∃ t, gZ Γ = .ref t) (h : lrel Γ nL L ls) (hs : sto k v L = some L')
    (h' : lv_has ls' nL ((k, rl Γ v) :: (lal Γ L).filter (fun q => !(q.1 == k) && !(q.1 + 1 == k && q.2.category == 2)))) : lrel Γ nL L' ls' := by
  obtain ⟨a1, a2, a3⟩ := sto_ok hs
  refine ⟨h'.1, h'.2.1, a2.trans h.2.2.1, fun j w hj => ?_⟩
  rcases a3 j w hj with ⟨rfl, rfl⟩ | ⟨b1, b2, b3⟩
  · exact h'.2.2 _ List.mem_cons_self
  · refine h'.2.2 (j, rl Γ w) (List.mem_cons_of_mem _ (List.mem_filter.mpr ⟨lal_mem b2, ?_⟩))
    have hc : (rl Γ w).category = w.category := rl_cat hz w
    simp only [Bool.and_eq_true, Bool.not_eq_true', beq_eq_false_iff_ne, ne_eq, Bool.and_eq_false_iff]
    refine ⟨b1, ?_⟩
    by_cases hk : j + 1 = k
    · exact Or.inr (by rw [hc]; exact b3 hk)
    · exact Or.inl hk
theorem nxs_ok {v : Option aLo} (h : nxs d mi pc st S v = some o) : ∃ w, v = some w ∧ nx d mi pc w st S = some o := by
  unfold nxs at h
  split at h
  · exact ⟨_, rfl, h⟩
  · cases h
theorem aStep.sto {pc' k : Nat} {v : Value} {L' : aLo} {st' : List Value} (hs : sto k v L = some L')
    (h : ∀ (p : Program) (l : Launch) (e : Env) (R : Room) (s : State) (m : MethodId) (args : Array Value) (below : List Frame) (meth : Method) (c : Code) (H : Heap) (locs : List Loc) (cells slots : Nat) (Q : State → Prop) (ls : Array Slot),
      aCtx Γ p s m args meth c q → lrel Γ q.2.2.1 L ls → lv_has ls q.2.2.1 (lal Γ L) → k < q.2.2.1 →
      (∀ ls' : Array Slot, lv_has ls' q.2.2.1 ((k, rl Γ v) :: (lal Γ L).filter (fun q => !(q.1 == k) && !(q.1 + 1 == k && q.2.category == 2))) → W p l e R s m args below meth c H locs cells slots Q (F0 m pc' ls' (st'.map (rl Γ)))) →
      W p l e R s m args below meth c H locs cells slots Q (F0 m pc ls (st.map (rl Γ)))) : aStep Γ q pc L st S d pc' L' st' S := by
  intro p l e R s m args below meth c H locs cells slots Q ls hC hf hl0 hl hH hS hz h1 h2 K
  refine h p l e R s m args below meth c H locs cells slots Q ls hC hl (lal_has hl) (by have := (sto_ok hs).1; have := hl.2.2.1; omega) (fun ls' h' => K ls' H locs cells slots (lrel_sto hC.2.2.2.2.2.2.1.2.2.2.2.2.1.2.2 hl hs h') hH hS rfl rfl)
theorem stS_ok (h : stS d mi pc i n L st S = some o) (hd : decode q.2.1 pc = .ok (i, n)) : aOk Γ d mi q pc L st S o := by
  unfold stS at h
  split at h
  · split at h
    · rename_i hn; subst hn
      split at h
      · obtain ⟨w, hw, h⟩ := nxs_ok h
        exact aOk.of h (aStep.sto hw fun p l e R s m args below meth c H locs cells slots Q ls hC hl h1 h2 k => lv_istore_n hC.1 hC.2.1 hd rfl h1 h2 rfl k)
      · cases h
    · cases h
  · split at h
    · rename_i hn; subst hn
      split at h
      · obtain ⟨w, hw, h⟩ := nxs_ok h
        exact aOk.of h (aStep.sto hw fun p l e R s m args below meth c H locs cells slots Q ls hC hl h1 h2 k => lv_istore hC.1 hC.2.1 hd h1 h2 rfl k)
      · cases h
    · cases h
  · split at h
    · rename_i hn; subst hn
      split at h
      · obtain ⟨w, hw, h⟩ := nxs_ok h
        exact aOk.of h (aStep.sto hw fun p l e R s m args below meth c H locs cells slots Q ls hC hl h1 h2 k => lv_astore_n hC.1 hC.2.1 hd rfl h1 h2 rfl k)
      · cases h
    · cases h
  · split at h
    · rename_i hn; subst hn
      split at h
      · obtain ⟨w, hw, h⟩ := nxs_ok h
        exact aOk.of h (aStep.sto hw fun p l e R s m args below meth c H locs cells slots Q ls hC hl h1 h2 k => lv_astore hC.1 hC.2.1 hd h1 h2 rfl k)
      · cases h
    · cases h
  · split at h
    · rename_i hn; subst hn
      split at h
      · rename_i x hx
        obtain ⟨w, hw, h⟩ := nxs_ok h
        refine aOk.of h (aStep.sto hw fun p l e R s m args below meth c H locs cells slots Q ls hC hl h1 h2 k => ?_)
        obtain ⟨kk, hkk⟩ := List.getElem?_of_mem (lal_mem (Γ := Γ) hx)
        exact lv_iinc hC.1 hC.2.1 hd h1 hkk rfl h2 rfl k
      · cases h
    · cases h
  · cases h
theorem stI_ok (h : stI d mi pc i n L st S = some o) (hd : decode q.2.1 pc = .ok (i, n)) : aOk Γ d mi q pc L st S o := by
  unfold stI at h
  split at h
  · rename_i hn; subst hn
    split at h
    · split at h
      · rename_i y x st' v hv
        refine aOk.of h (aStep.pure fun p l e R s m args below meth c H locs cells slots Q ls hC hl k => ?_)
        unfold bin at hv
        split at hv
        · cases hv; exact lv_iadd hC.1 hC.2.1 hd k
        · cases hv; exact lv_isub hC.1 hC.2.1 hd k
        · cases hv; exact lv_imul hC.1 hC.2.1 hd k
        · split at hv
          · cases hv
          · rename_i hy; cases hv; exact lv_idiv hC.1 hC.2.1 hd hy k
        · split at hv
          · cases hv
          · rename_i hy; cases hv; exact lv_irem hC.1 hC.2.1 hd hy k
        · cases hv; exact lv_iand hC.1 hC.2.1 hd k
        · cases hv; exact lv_ior hC.1 hC.2.1 hd k
        · cases hv; exact lv_ixor hC.1 hC.2.1 hd k
        · cases hv; exact lv_ishl hC.1 hC.2.1 hd k
        · cases hv; exact lv_ishr hC.1 hC.2.1 hd k
        · cases hv; exact lv_iushr hC.1 hC.2.1 hd rfl k
        · cases hv
      · cases h
    · cases h
  · cases h
theorem stU_ok (h : stU d mi pc i n L st S = some o) (hd : decode q.2.1 pc = .ok (i, n)) : aOk Γ d mi q pc L st S o := by
  unfold stU at h
  split at h
  · rename_i hn; subst hn
    split at h
    · split at h
      · rename_i x st' v hv
        refine aOk.of h (aStep.pure fun p l e R s m args below meth c H locs cells slots Q ls hC hl k => ?_)
        unfold una at hv
        split at hv
        · cases hv; exact lv_ineg hC.1 hC.2.1 hd k
        · cases hv; exact lv_i2b hC.1 hC.2.1 hd rfl k
        · cases hv; exact lv_i2s hC.1 hC.2.1 hd rfl k
        · cases hv; exact lv_i2c hC.1 hC.2.1 hd rfl k
        · cases hv; exact lv_i2l hC.1 hC.2.1 hd rfl k
        · cases hv
      · cases h
    · cases h
  · cases h
theorem c1_cat {v : Value} (h : c1 v = true) : (rl Γ v).category = 1 := by
  cases v <;> simp [c1] at h <;> rfl
theorem stJ_ok (h : stJ d mi pc i n L st S = some o) (hd : decode q.2.1 pc = .ok (i, n)) : aOk Γ d mi q pc L st S o := by
  unfold stJ at h
  split at h
  · rename_i hn; subst hn
    split at h
    · split at h
      · exact aOk.of h (aStep.pure fun p l e R s m args below meth c H locs cells slots Q ls hC hl k => lv_ladd hC.1 hC.2.1 hd k)
      · cases h
    · split at h
      · exact aOk.of h (aStep.pure fun p l e R s m args below meth c H locs cells slots Q ls hC hl k => W.lcmp hC.1 hC.2.1 hd k)
      · cases h
    · split at h
      · split at h
        · rename_i hv
          exact aOk.of h (aStep.pure fun p l e R s m args below meth c H locs cells slots Q ls hC hl k => lv_dup hC.1 hC.2.1 hd (c1_cat hv) k)
        · cases h
      · cases h
    · split at h
      · split at h
        · rename_i hv
          simp only [Bool.and_eq_true] at hv
          exact aOk.of h (aStep.pure fun p l e R s m args below meth c H locs cells slots Q ls hC hl k => lv_dup2_11 hC.1 hC.2.1 hd (c1_cat hv.1) (c1_cat hv.2) k)
        · cases h
      · cases h
    · split at h
      · split at h
        · rename_i hv
          exact aOk.of h (aStep.pure fun p l e R s m args below meth c H locs cells slots Q ls hC hl k => lv_pop hC.1 hC.2.1 hd (c1_cat hv) k)
        · cases h
      · cases h
    · cases h
  · cases h
theorem tg_ok {off : Int} (h : tgOk pc off = true) : (pc : Int) + off = (tgO pc off : Int) := by
  unfold tgOk at h
  unfold tgO
  have := of_decide_eq_true h
  omega
theorem stB_ok (h : stB d mi pc i n L st S = some o) (hd : decode q.2.1 pc = .ok (i, n)) : aOk Γ d mi q pc L st S o := by
  unfold stB at h
  split at h
  · split at h
    · rename_i hn
      obtain ⟨rfl, ht⟩ := hn
      split at h
      · rename_i c off _ x st'
        split at h
        · rename_i hb
          refine aOk.of h (aStep.pure fun p l e R s m args below meth cc H locs cells slots Q ls hC hl k => ?_)
          cases c <;> simp only [cmpB, decide_eq_true_eq] at hb
          · exact lv_if_eq hC.1 hC.2.1 hd (tg_ok ht) (fun _ => k) (fun z => absurd hb z)
          · exact lv_if_ne hC.1 hC.2.1 hd (tg_ok ht) (fun _ => k) (fun z => absurd z hb)
          · exact lv_if_lt hC.1 hC.2.1 hd (tg_ok ht) (fun _ => k) (fun z => absurd hb z)
          · exact lv_if_ge hC.1 hC.2.1 hd (tg_ok ht) (fun _ => k) (fun z => absurd hb z)
          · exact lv_if_gt hC.1 hC.2.1 hd (tg_ok ht) (fun _ => k) (fun z => absurd hb z)
          · exact lv_if_le hC.1 hC.2.1 hd (tg_ok ht) (fun _ => k) (fun z => absurd hb z)
        · rename_i hb
          refine aOk.of h (aStep.pure fun p l e R s m args below meth cc H locs cells slots Q ls hC hl k => ?_)
          cases c <;> simp only [cmpB, decide_eq_true_eq] at hb
          · exact lv_if_eq hC.1 hC.2.1 hd (tg_ok ht) (fun z => absurd z hb) (fun _ => k)
          · exact lv_if_ne hC.1 hC.2.1 hd (tg_ok ht) (fun z => absurd z hb) (fun _ => k)
          · exact lv_if_lt hC.1 hC.2.1 hd (tg_ok ht) (fun z => absurd z hb) (fun _ => k)
          · exact lv_if_ge hC.1 hC.2.1 hd (tg_ok ht) (fun z => absurd z hb) (fun _ => k)
          · exact lv_if_gt hC.1 hC.2.1 hd (tg_ok ht) (fun z => absurd z hb) (fun _ => k)
          · exact lv_if_le hC.1 hC.2.1 hd (tg_ok ht) (fun z => absurd z hb) (fun _ => k)
      · cases h
    · cases h
  · split at h
    · rename_i hn
      obtain ⟨rfl, ht⟩ := hn
      split at h
      · rename_i c off _ y x st'
        split at h
        · rename_i hb
          refine aOk.of h (aStep.pure fun p l e R s m args below meth cc H locs cells slots Q ls hC hl k => ?_)
          cases c <;> simp only [cmpB, decide_eq_true_eq] at hb
          · exact lv_icmp_eq hC.1 hC.2.1 hd (tg_ok ht) (fun _ => k) (fun z => absurd hb z)
          · exact lv_icmp_ne hC.1 hC.2.1 hd (tg_ok ht) (fun _ => k) (fun z => absurd z hb)
          · exact lv_icmp_lt hC.1 hC.2.1 hd (tg_ok ht) (fun _ => k) (fun z => absurd hb z)
          · exact lv_icmp_ge hC.1 hC.2.1 hd (tg_ok ht) (fun _ => k) (fun z => absurd hb z)
          · exact lv_icmp_gt hC.1 hC.2.1 hd (tg_ok ht) (fun _ => k) (fun z => absurd hb z)
          · exact lv_icmp_le hC.1 hC.2.1 hd (tg_ok ht) (fun _ => k) (fun z => absurd hb z)
        · rename_i hb
          refine aOk.of h (aStep.pure fun p l e R s m args below meth cc H locs cells slots Q ls hC hl k => ?_)
          cases c <;> simp only [cmpB, decide_eq_true_eq] at hb
          · exact lv_icmp_eq hC.1 hC.2.1 hd (tg_ok ht) (fun z => absurd z hb) (fun _ => k)
          · exact lv_icmp_ne hC.1 hC.2.1 hd (tg_ok ht) (fun z => absurd z hb) (fun z => k)
          · exact lv_icmp_lt hC.1 hC.2.1 hd (tg_ok ht) (fun z => absurd z hb) (fun _ => k)
          · exact lv_icmp_ge hC.1 hC.2.1 hd (tg_ok ht) (fun z => absurd z hb) (fun _ => k)
          · exact lv_icmp_gt hC.1 hC.2.1 hd (tg_ok ht) (fun z => absurd z hb) (fun _ => k)
          · exact lv_icmp_le hC.1 hC.2.1 hd (tg_ok ht) (fun z => absurd z hb) (fun _ => k)
      · cases h
    · cases h
  · split at h
    · rename_i hn
      obtain ⟨rfl, ht⟩ := hn
      exact aOk.of h (aStep.pure fun p l e R s m args below meth c H locs cells slots Q ls hC hl k => lv_goto hC.1 hC.2.1 hd (tg_ok ht) k)
    · cases h
  · split at h
    · split at h
      · rename_i hx
        split at h
        · rename_i ht
          exact aOk.of h (aStep.pure fun p l e R s m args below meth c H locs cells slots Q ls hC hl k => lv_tableOut hC.1 hC.2.1 hd hx (tg_ok ht) k)
        · cases h
      · rename_i hx
        split at h
        · rename_i off ho
          split at h
          · rename_i ht
            exact aOk.of h (aStep.pure fun p l e R s m args below meth c H locs cells slots Q ls hC hl k => lv_tableIn hC.1 hC.2.1 hd (fun z => hx (Or.inl z)) (fun z => hx (Or.inr z)) ho (tg_ok ht) k)
          · cases h
        · cases h
    · cases h
  · split at h
    · split at h
      · rename_i hx
        exact aOk.of h (aStep.pure fun p l e R s m args below meth c H locs cells slots Q ls hC hl k => lv_lookup hC.1 hC.2.1 hd hx.1 rfl (tg_ok hx.2) k)
      · cases h
    · cases h
  · cases h
end Steps
