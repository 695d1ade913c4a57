/-! THE MACHINE'S STATES AND THE ABSTRACT ONES -/
/-- what is fixed over a run: base, addresses outside, a carried value, classes and slots, array classes, the script -/
abbrev aG : Type := Nat × (Nat → Nat) × Value × va_G × (ClassId × ClassId × (Nat → ClassId)) × (Nat × Nat × (Nat → Int32))
def gB (Γ : aG) : Nat := Γ.1
def gX (Γ : aG) : Nat → Nat := Γ.2.1
def gZ (Γ : aG) : Value := Γ.2.2.1
def gD (Γ : aG) : va_G := Γ.2.2.2.1
def gI (Γ : aG) : ClassId := Γ.2.2.2.2.1.1
def gY (Γ : aG) : ClassId := Γ.2.2.2.2.1.2.1
def gQ (Γ : aG) : Nat → ClassId := Γ.2.2.2.2.1.2.2
def gb (Γ : aG) : Nat := Γ.2.2.2.2.2.1
def gL (Γ : aG) : Nat := Γ.2.2.2.2.2.2.1
def gx (Γ : aG) : Nat → Int32 := Γ.2.2.2.2.2.2.2
def adr (Γ : aG) (k : Nat) : Nat := if k < 1000 then gB Γ + k else gX Γ k
def rl (Γ : aG) : Value → Value
  | .ref k => .ref (adr Γ k)
  | .retAddr _ => gZ Γ
  | .int x => .int x
  | .long x => .long x
  | .float x => .float x
  | .double x => .double x
  | .null => .null
def gA (Γ : aG) : Nat → Prop := fun q => gB Γ ≤ q
def wcell (Γ : aG) (σ : Nat → Nat → Int32) (k : Nat) (sh : aSh) : va_E :=
  if sh.1 = 0 then .inl (gI Γ, sh.2.1, .inl (σ k))
  else if sh.1 = 1 then .inl (gY Γ, sh.2.1, .inl (σ k))
  else if sh.1 < 20 then .inl (gQ Γ (sh.1 - 2), sh.2.1, .inr (.inr (.inr (.inr (fun i => (sh.2.2.getD i none).map (adr Γ))))))
  else .inr (sh.1 - 20, (List.range sh.2.1).map (fun j => rl Γ (fv σ k sh j)))
def wld (Γ : aG) (S : aSt) : va_W := S.1.mapIdx (fun k sh => (gB Γ + k, wcell Γ S.2 k sh))
def RH (Γ : aG) (S : aSt) (H : Heap) : Prop := H.size = gB Γ + S.1.length ∧ S.1.length ≤ 1000 ∧ va_P (gD Γ) vwCl (wld Γ S) H
def tysL (Γ : aG) : List (ClassId × FieldType) := [(gI Γ, .int), (gY Γ, .byte), (gQ Γ 2, .object RX3), (gQ Γ 3, .object RX4), (gQ Γ 4, .object RX5)]
/-- what is outside, as a method finds it -/
def EX (Γ : aG) (U : State) : Prop :=
  va_K (gD Γ) vwCl (tysL Γ) U ∧
  (∀ e ∈ mthT, e.2.2.2.1 = 3 ∨ e.2.2.2.1 = 4 → ∀ y, mtb[e.2.2.1]? = some y → va_Nw (.methodLinkNest (ownN e.1) e.2.1 y.1 RX7) U) ∧
  (∀ e ∈ strT, vk_R (ownN e.1) e.2.1 (strN.getD e.2.2.1 "") (gX Γ (1010 + e.2.2.1)) U) ∧
  vk_S 11 (strX.map List.length) strX (fun i => gX Γ (1010 + i)) (fun i => gX Γ (1030 + i)) (gA Γ) U U.heap ∧
  (va_Z RX0 "ABOVE" "[I" (.ref (gX Γ 1002)) (gA Γ) U U.heap ∧ va_T .int (gX Γ 1002) 6 (fun j => .int (abv.getD j 0)) (gA Γ) U U.heap) ∧
  (va_Z RJ0 "COMPACT_STRINGS" "Z" (.int 1) (gA Γ) U U.heap ∧ va_Z RJ3 "SIOOBE_FORMATTER" "Ljava/util/function/BiFunction;" (gZ Γ) (gA Γ) U U.heap ∧ (gZ Γ = .null ∨ ∃ t, gZ Γ = .ref t)) ∧
  (va_X (gb Γ) (gL Γ) (gx Γ) U U.heap ∧ gX Γ 1000 = gb Γ ∧ gb Γ < gB Γ ∧ gL Γ < 2 ^ 31) ∧
  (va_AO RX3 U ∧ va_AO RX4 U ∧ va_AO RX5 U)
theorem EX.moved {Γ : aG} {s U : State} (hW : s.WarmedH U.vm) (hb : gB Γ ≤ s.heap.size) (hq : ∀ a : Nat, a < s.heap.size → ¬ gA Γ a → U.heap[a]? = s.heap[a]?) (h : EX Γ s) : EX Γ U := by
  obtain ⟨h1, h2, h3, h4, ⟨h5, h6⟩, ⟨h7, h8, h9⟩, ⟨h10, h11, h12, h13⟩, h14, h15, h16⟩ := h
  have ha := hW.alike
  refine ⟨va_K.moved ha h1, fun e he hk y hy => va_Nw.warmM hW (h2 e he hk y hy), fun e he => vk_R.warm hW (h3 e he), vk_S.moved ha (h4.kept hq), ⟨va_Z.moved ha (h5.kept hq), va_T.moved ha (h6.kept hq)⟩, ⟨va_Z.moved ha (h7.kept hq), va_Z.moved ha (h8.kept hq), h9⟩, ⟨va_X.moved ha (h10.kept (hq _ (by omega) (by unfold gA; omega))), h11, h12, h13⟩, va_AO.moved ha h14, va_AO.moved ha h15, va_AO.moved ha h16⟩
def aCtx (Γ : aG) (p : Program) (s : State) (m : MethodId) (args : Array Value) (meth : Method) (c : Code) (q : aMt) : Prop :=
  p.tables.exec = Jvm.exec ∧ c.code = q.2.1 ∧ c.maxLocals = q.2.2.1 ∧ s.vm.findClass q.1.cls = some m.cls ∧ meth.name = q.1.name ∧ (∀ w ∈ gtb, w.before args s = true) ∧ EX Γ s ∧ gB Γ ≤ s.heap.size ∧ q.1.cls = ownN q.2.2.2.2
def lrel (Γ : aG) (nL : Nat) (L : aLo) (ls : Array Slot) : Prop := ls.size = nL ∧ lv_wf ls ∧ L.length = nL ∧ ∀ (i : Nat) (v : Value), L[i]? = some (some v) → ls[i]? = some (.val (rl Γ v))
def shz (sh : aSh) : Nat := sh.2.1
def slz (l : List aSh) : Nat := (l.map shz).sum
/-- one step of the abstract machine is the machine's -/
def aStep (Γ : aG) (q : aMt) (pc : Nat) (L : aLo) (st : List Value) (S : aSt) (d : Nat) (pc' : Nat) (L' : aLo) (st' : List Value) (S' : aSt) : Prop :=
  ∀ (p : Program) (l : Launch) (e : Env) (R : Room) (s : State) (m : MethodId) (args : Array Value) (below : List Frame) (meth : Method) (c : Code) (H : Heap) (locs : List Loc) (cells slots : Nat) (Q : State → Prop) (ls : Array Slot),
    aCtx Γ p s m args meth c q → d ≤ R.frames → 64 * d ≤ R.locals → lrel Γ q.2.2.1 L ls → RH Γ S H → va_S (gA Γ) s.heap H locs → s.heap.size + cells = gB Γ + S.1.length → cells + S'.1.length ≤ R.cells + S.1.length → slots + slz S'.1 ≤ R.slots + slz S.1 →
    (∀ (ls' : Array Slot) (H' : Heap) (locs' : List Loc) (cells' slots' : Nat), lrel Γ q.2.2.1 L' ls' → RH Γ S' H' → va_S (gA Γ) s.heap H' locs' → cells' + S.1.length = cells + S'.1.length → slots' + slz S.1 = slots + slz S'.1 → W p l e R s m args below meth c H' locs' cells' slots' Q (F0 m pc' ls' (st'.map (rl Γ)))) →
    W p l e R s m args below meth c H locs cells slots Q (F0 m pc ls (st.map (rl Γ)))
theorem aStep.pure {Γ : aG} {q : aMt} {pc : Nat} {L : aLo} {st : List Value} {S : aSt} {d pc' : Nat} {st' : List Value}
    (h : ∀ (p : Program) (l : Launch) (e : Env) (R : Room) (s : State) (m : MethodId) (args : Array Value) (below : List Frame) (meth : Method) (c : Code) (H : Heap) (locs : List Loc) (cells slots : Nat) (Q : State → Prop) (ls : Array Slot),
      aCtx Γ p s m args meth c q → lrel Γ q.2.2.1 L ls → W p l e R s m args below meth c H locs cells slots Q (F0 m pc' ls (st'.map (rl Γ))) → W p l e R s m args below meth c H locs cells slots Q (F0 m pc ls (st.map (rl Γ)))) : aStep Γ q pc L st S d pc' L st' S := by
  intro p l e R s m args below meth c H locs cells slots Q ls hC hf hl0 hl hH hS hz h1 h2 K
  exact h p l e R s m args below meth c H locs cells slots Q ls hC hl (K ls H locs cells slots hl hH hS rfl rfl)
theorem nx_inj {d mi pc : Nat} {ls : aLo} {st : List Value} {S : aSt} {o : aOut} (h : nx d mi pc ls st S = some o) : o = .inr (.inl (d, mi, pc, ls, st, S)) := (Option.some.inj h).symm
/-- what a step's answer is -/
def aOk (Γ : aG) (d mi : Nat) (q : aMt) (pc : Nat) (L : aLo) (st : List Value) (S : aSt) (o : aOut) : Prop := ∃ pc' L' st' S', o = .inr (.inl (d, mi, pc', L', st', S')) ∧ aStep Γ q pc L st S d pc' L' st' S' ∧ S.1.length ≤ S'.1.length ∧ slz S.1 ≤ slz S'.1
theorem aOk.of {Γ : aG} {d mi : Nat} {q : aMt} {pc : Nat} {L : aLo} {st : List Value} {S : aSt} {o : aOut} {pc' : Nat} {L' : aLo} {st' : List Value} {S' : aSt} (h : nx d mi pc' L' st' S' = some o) (k : aStep Γ q pc L st S d pc' L' st' S')
    (g : S.1.length ≤ S'.1.length ∧ slz S.1 ≤ slz S'.1 := by exact ⟨Nat.le_refl _, Nat.le_refl _⟩) : aOk Γ d mi q pc L st S o := ⟨pc', L', st', S', nx_inj h, k, g⟩
theorem gr_set {l : List aSh} {h : Nat} {sh sh' : aSh} (hs : l[h]? = some sh) (hz : shz sh' = shz sh) : l.length ≤ (l.set h sh').length ∧ slz l ≤ slz (l.set h sh') := by
  refine ⟨by simp, ?_⟩
  have hsl : slz (l.set h sh') = slz l := by
    unfold slz
    rw [List.map_set]
    congr 1
    apply List.ext_getElem?
    intro k
    by_cases hk : k = h
    · subst hk
      rw [List.getElem?_set_self (by simpa using (List.getElem?_eq_some_iff.mp hs).1), List.getElem?_map, hs]
      show some (shz sh') = some (shz sh)
      rw [hz]
    · rw [List.getElem?_set_ne (Ne.symm hk)]
  omega
theorem gr_al {S : aSt} {sh : aSh} : S.1.length ≤ (alS S sh).1.length ∧ slz S.1 ≤ slz (alS S sh).1 := by
  simp [alS, slz]
theorem inb_iff {i : Int32} {n : Nat} : inb i n = true ↔ vp_in i n := by
  unfold inb vp_in
  exact decide_eq_true_iff
theorem wld_at {Γ : aG} {S : aSt} {h : Nat} {sh : aSh} (hs : S.1[h]? = some sh) : (wld Γ S)[h]? = some (gB Γ + h, wcell Γ S.2 h sh) := by
  unfold wld
  rw [List.getElem?_mapIdx, hs]
  rfl
theorem wld_len {Γ : aG} {S : aSt} : (wld Γ S).length = S.1.length := by simp [wld]
theorem wld_D {Γ : aG} {S : aSt} : va_D (gA Γ) (wld Γ S) := by
  have key : ∀ (k : Nat) (q : Nat × va_E), (wld Γ S)[k]? = some q → q.1 = gB Γ + k := by
    intro k q hk
    unfold wld at hk
    rw [List.getElem?_mapIdx] at hk
    cases hs : S.1[k]? with
    | none => rw [hs] at hk; cases hk
    | some sh => rw [hs] at hk; cases hk; rfl
  refine ⟨fun i j x y hi hj hxy => ?_, fun k q hk => ?_⟩
  · have a := key i x hi
    have b := key j y hj
    omega
  · have a := key k q hk
    show gB Γ ≤ q.1
    omega
/-- a row is written -/
theorem wld_row {Γ : aG} {S : aSt} {h : Nat} {sh sh' : aSh} {σ : Nat → Nat → Int32} (hs : S.1[h]? = some sh) (hσ : ∀ k, k ≠ h → σ k = S.2 k) : wld Γ (S.1.set h sh', σ) = (wld Γ S).set h (gB Γ + h, wcell Γ σ h sh') := by
  have hl : h < S.1.length := (List.getElem?_eq_some_iff.mp hs).1
  apply List.ext_getElem?
  intro k
  by_cases hk : k = h
  · subst hk
    rw [List.getElem?_set_self (by rw [wld_len]; exact hl), wld_at (sh := sh') (by simp [hl])]
  · rw [List.getElem?_set_ne (Ne.symm hk)]
    unfold wld
    rw [List.getElem?_mapIdx, List.getElem?_mapIdx]
    simp only
    rw [List.getElem?_set_ne (Ne.symm hk)]
    cases S.1[k]? with
    | none => rfl
    | some sh0 =>
      have e : wcell Γ σ k sh0 = wcell Γ S.2 k sh0 := by
        have hf : ∀ j, fv σ k sh0 j = fv S.2 k sh0 j := by
          intro j
          unfold fv
          rw [hσ k hk]
        unfold wcell
        rw [hσ k hk]
        simp only [hf]
      simp [e]
theorem set_same {α : Type} {l : List α} {h : Nat} {x : α} (hs : l[h]? = some x) : l.set h x = l := by
  apply List.ext_getElem?
  intro k
  by_cases hk : k = h
  · subst hk
    rw [List.getElem?_set_self (List.getElem?_eq_some_iff.mp hs).1, hs]
  · rw [List.getElem?_set_ne (Ne.symm hk)]
theorem sr_ne {σ : Nat → Nat → Int32} {h k : Nat} {f : Nat → Int32} (hk : k ≠ h) : sr σ h f k = σ k := by
  unfold sr
  rw [if_neg hk]
theorem sr_eq {σ : Nat → Nat → Int32} {h : Nat} {f : Nat → Int32} : sr σ h f h = f := by
  unfold sr
  rw [if_pos rfl]
theorem W.sized {p : Program} {l : Launch} {e : Env} {R : Room} {s : State} {m : MethodId} {args : Array Value} {below : List Frame} {meth : Method} {c : Code} {H : Heap} {locs : List Loc} {cells slots : Nat} {Q : State → Prop} {g : JFrame}
    (h : H.size ≤ s.heap.size + cells → W p l e R s m args below meth c H locs cells slots Q g) : W p l e R s m args below meth c H locs cells slots Q g := by
  intro T hT X
  have h1 : (T.setVm s.vm).heap.size ≤ s.heap.size + cells := X.same.2.2.1
  have h2 : (T.setVm s.vm).heap = T.heap := rfl
  exact h (by rw [← hT, ← h2]; exact h1) T hT X
theorem wld_ge {Γ : aG} {S : aSt} {H : Heap} (hP : va_P (gD Γ) vwCl (wld Γ S) H) (hb : gB Γ ≤ H.size) : gB Γ + S.1.length ≤ H.size := by
  cases hn : S.1.length with
  | zero => exact hb
  | succ n =>
    have hl : n < S.1.length := by omega
    have h1 := (hP n _ (wld_at (Γ := Γ) (List.getElem?_eq_getElem hl))).lt
    have h2 : gB Γ + n < H.size := h1
    omega
/-- behind a write to a cell of the state -/
theorem RH.row {Γ : aG} {S : aSt} {H H1 : Heap} {h : Nat} {sh sh' : aSh} {σ : Nat → Nat → Int32} (hH : RH Γ S H) (hs : S.1[h]? = some sh) (hσ : ∀ k, k ≠ h → σ k = S.2 k) (hz : H1.size ≤ gB Γ + S.1.length) (hb : gB Γ ≤ H1.size)
    (hP : va_P (gD Γ) vwCl ((wld Γ S).set h (gB Γ + h, wcell Γ σ h sh')) H1) : RH Γ (S.1.set h sh', σ) H1 := by
  obtain ⟨h1, h2, h3⟩ := hH
  have hl : h < S.1.length := (List.getElem?_eq_some_iff.mp hs).1
  have hP' : va_P (gD Γ) vwCl (wld Γ (S.1.set h sh', σ)) H1 := by rw [wld_row hs hσ]; exact hP
  have hge := wld_ge hP' hb
  have hlen : (S.1.set h sh').length = S.1.length := by simp
  refine ⟨?_, by simpa using h2, hP'⟩
  · show H1.size = gB Γ + (S.1.set h sh').length
    have hge' : gB Γ + (S.1.set h sh').length ≤ H1.size := hge
    omega
theorem adr_lt {Γ : aG} {S : aSt} {H : Heap} {h : Nat} {sh : aSh} (hH : RH Γ S H) (hs : S.1[h]? = some sh) : adr Γ h = gB Γ + h := by
  have hl : h < S.1.length := (List.getElem?_eq_some_iff.mp hs).1
  have := hH.2.1
  unfold adr
  rw [if_pos (by omega)]
