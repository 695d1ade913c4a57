/-! THE ABSTRACT MACHINE'S RUNS ARE THE MACHINE'S -/
theorem EX.same {Γ : aG} {u U : State} (hv : U.vm = u.vm) (hh : U.heap = u.heap) (h : EX Γ u) : EX Γ U := by
  obtain ⟨h1, h2, h3, h4, ⟨h5, h6⟩, ⟨h7, h8, h9⟩, ⟨h10, h11, h12, h13⟩, h14, h15, h16⟩ := h
  have ha : u.vm.Alike U.vm := by rw [hv]; exact Vm.Alike.refl _
  unfold EX
  rw [hh]
  exact ⟨va_K.moved ha h1, fun e he hk y hy => va_Nw.same rfl hv.symm (h2 e he hk y hy), fun e he => vk_R.same hv (h3 e he), vk_S.moved ha h4, ⟨va_Z.moved ha h5, va_T.moved ha h6⟩, ⟨va_Z.moved ha h7, va_Z.moved ha h8, h9⟩, ⟨va_X.moved ha h10, h11, h12, h13⟩, va_AO.moved ha h14, va_AO.moved ha h15, va_AO.moved ha h16⟩
def wsM (y : aMt) : List Cond := .code y.1 y.2.1 y.2.2.1 y.2.2.2.1 :: gtb
def rmM (d mc ms : Nat) : Room := { frames := d, cells := mc, slots := ms, locals := 64 * d }
def PcM (Γ : aG) (as : List Value) (S : aSt) : Array Value → State → Prop := va_Pc (as.map (rl Γ)) (fun U => RH Γ S U.heap ∧ EX Γ U)
def QcM (Γ : aG) (r : aRs) : Array Value → State → Outcome → State → Prop := fun _ st o t => o = .returned (r.1.map (rl Γ)) ∧ RH Γ r.2 t.heap ∧ va_F (gA Γ) st t
theorem blindM {Γ : aG} {as : List Value} {S : aSt} : FrameBlind (PcM Γ as S) := by
  intro a U g mk h
  obtain ⟨h1, h2, h3⟩ := h
  exact ⟨h1, h2, EX.same rfl rfl h3⟩
theorem goodM {y : aMt} (h : Cond.code y.1 y.2.1 y.2.2.1 y.2.2.2.1 ∈ gtb) : GoodIn gtb (wsM y) := by
  intro w hw
  rcases List.mem_cons.mp hw with rfl | hw
  · exact ⟨h, good_of_word (List.mem_filter.mp h).2⟩
  · exact ⟨hw, good_of_word (List.mem_filter.mp hw).2⟩
theorem splA_ok : ∀ {n : Nat} {acc st as rest : List Value}, splA n acc st = some (as, rest) → ∃ p, p.length = n ∧ st = p ++ rest ∧ as = p.reverse ++ acc := by
  intro n
  induction n with
  | zero =>
    intro acc st as rest h
    cases h
    exact ⟨[], rfl, rfl, rfl⟩
  | succ n ih =>
    intro acc st as rest h
    cases st with
    | nil => cases h
    | cons v st =>
      obtain ⟨p, h1, h2, h3⟩ := ih (show splA n (v :: acc) st = some (as, rest) from h)
      exact ⟨v :: p, by simp [h1], by simp [h2], by simp [h3]⟩
theorem spl_ok {Γ : aG} {n : Nat} {st as rest : List Value} (h : splA n [] st = some (as, rest)) : as.length = n ∧ st.map (rl Γ) = (as.map (rl Γ)).reverse ++ rest.map (rl Γ) := by
  obtain ⟨p, h1, h2, h3⟩ := splA_ok h
  simp only [List.append_nil] at h3
  subst h3 h2
  exact ⟨by simp [h1], by simp⟩
theorem ent_at {Γ : aG} (hz : gZ Γ = .null ∨ ∃ t, gZ Γ = .ref t) : ∀ (as : List Value) (k i : Nat) (v : Value), (entA as)[i]? = some (some v) → (k + i, rl Γ v) ∈ lv_args k (as.map (rl Γ)) := by
  intro as
  induction as with
  | nil => intro k i v h; simp [entA] at h
  | cons a as ih =>
    intro k i v h
    have hc : (rl Γ a).category = a.category := rl_cat hz a
    simp only [List.map_cons, lv_args, hc]
    unfold entA at h
    by_cases ha : a.category = 2
    · rw [if_pos ha] at h ⊢
      match i, h with
      | 0, h => simp at h; subst h; exact List.mem_cons_self
      | 1, h => simp at h
      | i + 2, h =>
        have := ih (k + 2) i v (by simpa using h)
        exact List.mem_cons_of_mem _ (by rw [show k + (i + 2) = k + 2 + i by omega]; exact this)
    · rw [if_neg ha] at h ⊢
      match i, h with
      | 0, h => simp at h; subst h; exact List.mem_cons_self
      | i + 1, h =>
        have := ih (k + 1) i v (by simpa using h)
        exact List.mem_cons_of_mem _ (by rw [show k + (i + 1) = k + 1 + i by omega]; exact this)
theorem ent_len {Γ : aG} (hz : gZ Γ = .null ∨ ∃ t, gZ Γ = .ref t) : ∀ (as : List Value), (lg_sl (as.map (rl Γ))).length = (entA as).length := by
  intro as
  induction as with
  | nil => rfl
  | cons a as ih =>
    have hc : (rl Γ a).category = a.category := rl_cat hz a
    unfold entA
    have e : lg_sl ((a :: as).map (rl Γ)) = (if a.category = 2 then [.val (rl Γ a), .second] else [.val (rl Γ a)]) ++ lg_sl (as.map (rl Γ)) := by
      simp only [lg_sl, List.map_cons, List.flatMap_cons, hc]
      try rfl
    rw [e]
    by_cases ha : a.category = 2
    · simp [ha, ih]
    · simp [ha, ih]
/-- the instruction at which a method ends, and what it answers -/
def retAt (Γ : aG) (q : aMt) (pc : Nat) (st : List Value) (v : Option Value) : Prop :=
  (∃ (x : Int32) (ty : FieldType), v = some (.int x) ∧ st = [.int x] ∧ decode q.2.1 pc = .ok (.ireturn, 1) ∧ q.2.2.2.1 = some ty ∧ narrow ty (.int x) = .int x) ∨
  (∃ (k : Nat) (ty : FieldType), v = some (.ref k) ∧ st = [.ref (adr Γ k)] ∧ decode q.2.1 pc = .ok (.areturn, 1) ∧ q.2.2.2.1 = some ty ∧ ((∃ n, ty = .object n) ∨ ∃ t, ty = .array t)) ∨
  (v = none ∧ st = [] ∧ decode q.2.1 pc = .ok (.return_, 1) ∧ q.2.2.2.1 = none)
theorem rok_ok {rt : Option FieldType} {z : Int32} (h : rok rt z = true) : ∃ ty, rt = some ty ∧ narrow ty (.int z) = .int z := by
  cases rt with
  | none => cases h
  | some ty =>
    refine ⟨ty, rfl, ?_⟩
    cases ty with
    | int => rfl
    | boolean =>
      have h1 : (z == 0 || z == 1) = true := h
      simp only [Bool.or_eq_true, beq_iff_eq] at h1
      rcases h1 with rfl | rfl <;> rfl
    | char => exact of_decide_eq_true h
    | byte => exact of_decide_eq_true h
    | _ => cases h
theorem stR_ok {Γ : aG} {q : aMt} {pc n : Nat} {i : Instr} {st : List Value} {S : aSt} {o : aOut} (h : stR q i n st S = some o) (hd : decode q.2.1 pc = .ok (i, n)) : ∃ v, o = .inl (v, S) ∧ retAt Γ q pc (st.map (rl Γ)) v := by
  unfold stR at h
  split at h
  · split at h
    · rename_i hn; subst hn
      split at h
      · split at h
        · rename_i hr
          cases h
          obtain ⟨ty, e1, e2⟩ := rok_ok hr
          exact ⟨_, rfl, Or.inl ⟨_, ty, rfl, rfl, hd, e1, e2⟩⟩
        · cases h
      · cases h
    · cases h
  · split at h
    · rename_i hn; subst hn
      split at h
      · rename_i k
        split at h
        · rename_i hr
          cases h
          refine ⟨_, rfl, Or.inr (Or.inl ?_)⟩
          cases ht : q.2.2.2.1 with
          | none => rw [ht] at hr; cases hr
          | some ty =>
            rw [ht] at hr
            refine ⟨k, ty, rfl, rfl, hd, rfl, ?_⟩
            cases ty <;> simp [isRT] at hr
            · exact Or.inl ⟨_, rfl⟩
            · exact Or.inr ⟨_, rfl⟩
        · cases h
      · cases h
    · cases h
  · split at h
    · rename_i hn; subst hn
      split at h
      · split at h
        · rename_i hr
          cases h
          exact ⟨_, rfl, Or.inr (Or.inr ⟨rfl, rfl, hd, hr⟩)⟩
        · cases h
      · cases h
    · cases h
  · cases h
/-- what soundness says of the runs of n steps -/
def gE (Γ : aG) : aE := some (gL Γ, gx Γ)
def SND (Γ : aG) (n : Nat) : Prop := ∀ (d mi pc : Nat) (L : aLo) (st : List Value) (S : aSt) (r : aRs), rn (gE Γ) n (d, mi, pc, L, st, S) = some r →
  (S.1.length ≤ r.2.1.length ∧ slz S.1 ≤ slz r.2.1) ∧
  ∀ (q : aMt), mtb[mi]? = some q → ∀ (p : Program) (l : Launch) (e : Env) (R : Room) (s : State) (m : MethodId) (args : Array Value) (below : List Frame) (meth : Method) (c : Code) (H : Heap) (locs : List Loc) (cells slots fc fs : Nat) (Q : State → Prop) (ls : Array Slot),
    aCtx Γ p s m args meth c q → d ≤ R.frames → 64 * d ≤ R.locals → lrel Γ q.2.2.1 L ls → RH Γ S H → va_S (gA Γ) s.heap H locs → s.heap.size + cells = gB Γ + S.1.length → cells + r.2.1.length = fc + S.1.length → slots + slz r.2.1 = fs + slz S.1 → fc ≤ R.cells → fs ≤ R.slots →
    (∀ (pc' : Nat) (ls' : Array Slot) (st' : List Value) (H' : Heap) (locs' : List Loc), retAt Γ q pc' st' r.1 → RH Γ r.2 H' → va_S (gA Γ) s.heap H' locs' → W p l e R s m args below meth c H' locs' fc fs Q (F0 m pc' ls' st')) →
    W p l e R s m args below meth c H locs cells slots Q (F0 m pc ls (st.map (rl Γ)))
theorem mtb_own {mi : Nat} {q : aMt} (h : mtb[mi]? = some q) : q.1.cls = ownN q.2.2.2.2 := by
  have := List.all_eq_true.mp chk_own q (List.mem_of_getElem? h)
  exact of_decide_eq_true this
/-- a method's contract -/
theorem met_of {Γ : aG} {n d j : Nat} {as : List Value} {S : aSt} {r : aRs} {y : aMt} (l : Launch) (ih : SND Γ n) (hrun : rn (gE Γ) n (d, j, 0, ent y.2.2.1 as, [], S) = some r) (hy : mtb[j]? = some y) (hent : (entA as).length ≤ y.2.2.1) (hpl : plainName y.1.cls = true) :
    Met l y.1 (wsM y) (rmM d (r.2.1.length - S.1.length) (slz r.2.1 - slz S.1)) (PcM Γ as S) (QcM Γ r) (r.2.1.length - S.1.length) (slz r.2.1 - slz S.1) (gA Γ) := by
  obtain ⟨⟨g1, g2⟩, ih⟩ := ih d j 0 _ _ S r hrun
  refine Met.ofW (cc := y.2.1) (maxL := y.2.2.1) (ret := y.2.2.2.1) hpl rfl ?_
  intro p e s m args below meth c s₁ B hml hv
  obtain ⟨rfl, hH, hE⟩ := hv
  have hz := hE.2.2.2.2.2.1.2.2
  have hts := atoms_spec (ws := wsM y) B.pre
  have hC : aCtx Γ p s m (as.map (rl Γ)).toArray meth c y := ⟨B.exec, B.bytes, hml, findClass_of_methodNamed B.named, (name_of_methodNamed B.named B.method).1, fun w hw => hts w (List.mem_cons_of_mem _ hw), hE, by rw [hH.1]; omega, mtb_own hy⟩
  have hl := lv_entry (as.map (rl Γ)) (n := y.2.2.1) (by rw [ent_len hz]; exact hent)
  rw [lg_entry_eq]
  generalize (lg_sl (as.map (rl Γ)) ++ List.replicate (y.2.2.1 - (lg_sl (as.map (rl Γ))).length) Slot.unset).toArray = ls at hl ⊢
  have hlr : lrel Γ y.2.2.1 (ent y.2.2.1 as) ls := by
    refine ⟨hl.1, hl.2.1, by simp [ent]; omega, fun i v hi => ?_⟩
    have h1 : (entA as)[i]? = some (some v) := by
      unfold ent at hi
      by_cases hlt : i < (entA as).length
      · rwa [List.getElem?_append_left hlt] at hi
      · rw [List.getElem?_append_right (by omega), List.getElem?_replicate] at hi
        split at hi
        · cases hi
        · cases hi
    have h2 := ent_at hz as 0 i v h1
    rw [Nat.zero_add] at h2
    exact hl.2.2 _ h2
  refine ih y hy p l e (headSpec (wsM y) (rmM d (r.2.1.length - S.1.length) (slz r.2.1 - slz S.1))).room s m _ below meth c s.heap [] 0 0 (r.2.1.length - S.1.length) (slz r.2.1 - slz S.1) _ ls hC (Nat.le_refl _) (Nat.le_refl _) hlr hH va_S.rf (by rw [hH.1]; rfl) (by omega) (by omega) (Nat.le_refl _) (Nat.le_refl _) ?_
  intro pc' ls' st' H' locs' hret hH' hS'
  rcases hret with ⟨x, ty, h1, rfl, h3, h4, h5⟩ | ⟨k, ty, h1, rfl, h3, h4, h5⟩ | ⟨h1, rfl, h3, h4⟩
  · refine W.zret B.exec B.bytes (by rw [B.returns]; exact h4) h5 (fun t ht hW => ⟨by rw [h1]; rfl, by rw [ht]; exact hH', hS'.F ht⟩) (fun q hq => hS'.2.2 q hq) h3 B.notSynchronized
  · refine W.aret B.exec B.bytes (by rw [B.returns]; exact h4) h5 (Or.inr ⟨_, rfl⟩) (fun t ht hW => ⟨by rw [h1]; rfl, by rw [ht]; exact hH', hS'.F ht⟩) (fun q hq => hS'.2.2 q hq) h3 B.notSynchronized
  · refine W.vret B.exec B.bytes (by rw [B.returns]; exact h4) (fun t ht hW => ⟨by rw [h1]; rfl, by rw [ht]; exact hH', hS'.F ht⟩) (fun q hq => hS'.2.2 q hq) h3 B.notSynchronized
section Call
variable {p : Program} {l : Launch} {e : Env} {R : Room} {s : State} {m : MethodId} {args : Array Value} {below : List Frame} {meth : Method} {c : Code} {H : Heap} {locs : List Loc} {cells slots : Nat} {Q : State → Prop}
/-- behind a call -/
theorem callW {Γ : aG} {r : aRs} {mc ms pc : Nat} {ls : Array Slot} {st0 rest : List Value} {a : Array Value} (hr : va_Run p l e R s m args below meth c H locs cells slots mc ms (F0 m pc ls st0) rest (QcM Γ r a) (gA Γ)) (hS : va_S (gA Γ) s.heap H locs)
    (kk : ∀ (H1 : Heap) (locs1 : List Loc), RH Γ r.2 H1 → va_S (gA Γ) s.heap H1 locs1 → W p l e R s m args below meth c H1 locs1 (cells + mc) (slots + ms) Q (F0 m (pc + 3) ls ((r.1.map (rl Γ)).toList ++ rest))) : W p l e R s m args below meth c H locs cells slots Q (F0 m pc ls st0) := by
  intro T hT X
  obtain ⟨v, st₀, t, T', L, h0, X', hL, e1, e2, ⟨hv, hp, hz, hk⟩, st⟩ := hr T hT X
  cases hv
  rw [h0] at hz hk
  obtain ⟨t2, a1, b1⟩ := kk T'.heap (locs ++ L) (by rw [e1]; exact hp) ⟨Nat.le_trans hS.1 (by rw [e1]; exact hz), fun q h1 h2 => by rw [e1, hk q (Nat.lt_of_lt_of_le h1 hS.1) h2]; exact hS.2.1 q h1 h2, fun q hq => by
      rcases List.mem_append.mp hq with h | h
      · exact hS.2.2 q h
      · exact hL q h⟩ T' rfl X'
  exact ⟨t2, st t2 a1, b1⟩
end Call
theorem mth_ok {own x : Nat} {e : Nat × Nat × Nat × Nat × Nat × Nat × Nat × Nat × Nat × Nat} {y : aMt} (h : mthE own x = some e) (hy : mtb[e.2.2.1]? = some y) :
    (e ∈ mthT ∧ e.1 = own ∧ e.2.1 = x ∧ e.2.2.1 < 223) ∧ (¬ e.2.2.2.1 = 3 → ¬ e.2.2.2.1 = 4 → Cond.methodLink (ownN own) x y.1 ∈ gtb) ∧ ((e.2.2.2.1 = 0 ∨ e.2.2.2.1 = 3) → Cond.static y.1 ∈ gtb) ∧ (¬ (e.2.2.2.1 = 0 ∨ e.2.2.2.1 = 3) → Cond.instanceMethod y.1 ∈ gtb) ∧
    (e.2.2.2.1 = 1 → Cond.selects y.1.cls y.1 y.1 ∈ gtb) ∧ Cond.initialized y.1.cls ∈ gtb ∧ (y.1.cls ≠ "java/lang/invoke/MethodHandle" ∧ y.1.cls ≠ "java/lang/invoke/VarHandle" ∧ (parseMethodDescriptor y.1.desc).map (fun d => d.parameters.length) = some e.2.2.2.2.1) ∧ plainName y.1.cls = true ∧ y.2.2.1 ≤ 40 ∧ ((e.2.2.2.1 = 2 ∨ e.2.2.2.1 = 4) → y.1.name = "<init>" ∧ y.2.2.2.1 = none) := by
  obtain ⟨h1, h2⟩ := find_ok h
  have h3 := List.all_eq_true.mp chk_mth e h1
  have h4 := of_decide_eq_true (List.all_eq_true.mp chk_law e h1)
  simp only [Bool.and_eq_true, beq_iff_eq] at h2
  obtain ⟨k1, k2⟩ := h2
  unfold chkM at h3
  rw [hy] at h3
  simp only [Bool.and_eq_true, decide_eq_true_eq, Bool.or_eq_true, Bool.not_eq_true', beq_iff_eq, beq_eq_false_iff_ne, ne_eq] at h3
  obtain ⟨⟨⟨⟨⟨⟨⟨⟨⟨⟨⟨a1, a2⟩, a3⟩, a4⟩, a5⟩, a6⟩, a7⟩, a8⟩, a9⟩, a10⟩, a11⟩, a12⟩ := h3
  refine ⟨⟨h1, k1, k2, h4⟩, fun n3 n4 => ?_, fun hk => ?_, fun hk => ?_, fun hk => ?_, gtb_in a5 a6, ⟨a7, a8, a11⟩, a9, a10, fun hk => ?_⟩
  · rw [if_neg (by rintro (z | z); exact n3 z; exact n4 z), k1, k2] at a1
    rw [k1, k2] at a2
    rcases a2 with (z | z) | z
    · exact absurd z n3
    · exact absurd z n4
    · exact gtb_in a1 z
  · rw [if_pos hk] at a3
    simp only [Bool.and_eq_true, decide_eq_true_eq] at a3
    exact gtb_in a3.1 a3.2
  · rw [if_neg hk] at a3
    simp only [Bool.and_eq_true, decide_eq_true_eq] at a3
    exact gtb_in a3.1 a3.2
  · rcases a4 with z | z
    · exact absurd hk z
    · exact gtb_in z.1 z.2
  · rcases a12 with ⟨z1, z2⟩ | z
    · rcases hk with hk | hk
      · exact absurd hk z1
      · exact absurd hk z2
    · exact z
