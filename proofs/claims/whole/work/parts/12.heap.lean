/-! STEPS THAT READ OR WRITE THE HEAP -/
section Heap
variable {Γ : aG} {d mi : Nat} {q : aMt} {pc n : Nat} {i : Instr} {L : aLo} {st : List Value} {S : aSt} {o : aOut}
theorem wc_0 {σ : Nat → Nat → Int32} {k : Nat} {sh : aSh} (h : sh.1 = 0) : wcell Γ σ k sh = .inl (gI Γ, sh.2.1, .inl (σ k)) := by
  unfold wcell; rw [if_pos h]
theorem wc_1 {σ : Nat → Nat → Int32} {k : Nat} {sh : aSh} (h : sh.1 = 1) : wcell Γ σ k sh = .inl (gY Γ, sh.2.1, .inl (σ k)) := by
  unfold wcell; rw [if_neg (by omega), if_pos h]
theorem wc_q {σ : Nat → Nat → Int32} {k : Nat} {sh : aSh} (h : 4 ≤ sh.1) (h2 : sh.1 < 7) : wcell Γ σ k sh = .inl (gQ Γ (sh.1 - 2), sh.2.1, .inr (.inr (.inr (.inr (fun i => (sh.2.2.getD i none).map (adr Γ)))))) := by
  unfold wcell; rw [if_neg (by omega), if_neg (by omega), if_pos (by omega)]
theorem wc_o {σ : Nat → Nat → Int32} {k : Nat} {sh : aSh} (h : 20 ≤ sh.1) : wcell Γ σ k sh = .inr (sh.1 - 20, (List.range sh.2.1).map (fun j => rl Γ (fv σ k sh j))) := by
  unfold wcell; rw [if_neg (by omega), if_neg (by omega), if_neg (by omega)]
theorem shO_ok {h ci k : Nat} {sh : aSh} (hh : shO S h ci k = some sh) : S.1[h]? = some sh ∧ sh.1 = 20 + ci ∧ k < sh.2.1 := by
  unfold shO at hh
  split at hh
  · rename_i s0 hs
    split at hh
    · rename_i hc
      cases hh
      exact ⟨hs, hc.1, hc.2⟩
    · cases hh
  · cases hh
theorem shA_ok {h t : Nat} {j : Int32} {sh : aSh} (hh : shA S h t j = some sh) : S.1[h]? = some sh ∧ sh.1 = t ∧ vp_in j sh.2.1 := by
  unfold shA at hh
  split at hh
  · rename_i s0 hs
    split at hh
    · rename_i hc
      cases hh
      exact ⟨hs, hc.1, inb_iff.mp hc.2⟩
    · cases hh
  · cases hh
theorem aCtx.w {p : Program} {s : State} {m : MethodId} {args : Array Value} {meth : Method} {c : Code} (hC : aCtx Γ p s m args meth c q) {w : Cond} (h : w ∈ gtb) : w.before args s = true := hC.2.2.2.2.2.1 w h
theorem aCtx.ex {p : Program} {s : State} {m : MethodId} {args : Array Value} {meth : Method} {c : Code} (hC : aCtx Γ p s m args meth c q) : EX Γ s := hC.2.2.2.2.2.2.1
theorem aCtx.own {p : Program} {s : State} {m : MethodId} {args : Array Value} {meth : Method} {c : Code} (hC : aCtx Γ p s m args meth c q) : s.vm.findClass (ownN q.2.2.2.2) = some m.cls := by
  rw [← hC.2.2.2.2.2.2.2.2]; exact hC.2.2.2.1
theorem aCtx.base {p : Program} {s : State} {m : MethodId} {args : Array Value} {meth : Method} {c : Code} (hC : aCtx Γ p s m args meth c q) : gB Γ ≤ s.heap.size := hC.2.2.2.2.2.2.2.1
theorem cat_sum (l : List Value) : (l.map fun v => v.category).sum ≤ 2 * l.length := by
  induction l with
  | nil => simp
  | cons a l ih =>
    simp only [List.map_cons, List.sum_cons, List.length_cons]
    have : a.category ≤ 2 := by rcases lv_cat a with h | h <;> omega
    omega
theorem cat_sum4 {l : List Value} (h : l.length ≤ 4) : ((l.map (rl Γ)).map fun v => v.category).sum ≤ 8 := by
  have := cat_sum (l.map (rl Γ))
  simp only [List.length_map] at this
  omega
/-- a step that writes one cell -/
theorem aStep.row {h pc' : Nat} {sh sh' : aSh} {σ' : Nat → Nat → Int32} {st' : List Value} (hs : S.1[h]? = some sh) (hσ : ∀ k, k ≠ h → σ' k = S.2 k) (hz' : shz sh' = shz sh)
    (k : ∀ (p : Program) (l : Launch) (e : Env) (R : Room) (s : State) (m : MethodId) (args : Array Value) (below : List Frame) (meth : Method) (c : Code) (H : Heap) (locs : List Loc) (cells slots : Nat) (Q : State → Prop) (ls : Array Slot),
      aCtx Γ p s m args meth c q → d ≤ R.frames → 64 * d ≤ R.locals → ls.size = q.2.2.1 → RH Γ S H → va_S (gA Γ) s.heap H locs →
      (∀ (H1 : Heap) (locs1 : List Loc), va_P (gD Γ) vwCl ((wld Γ S).set h (gB Γ + h, wcell Γ σ' h sh')) H1 → va_S (gA Γ) s.heap H1 locs1 → W p l e R s m args below meth c H1 locs1 cells slots Q (F0 m pc' ls (st'.map (rl Γ)))) →
      W p l e R s m args below meth c H locs cells slots Q (F0 m pc ls (st.map (rl Γ)))) : aStep Γ q pc L st S d pc' L st' (S.1.set h sh', σ') := by
  intro p l e R s m args below meth c H locs cells slots Q ls hC hf hl0 hl hH hS hz h1 h2 K
  refine k p l e R s m args below meth c H locs cells slots Q ls hC hf hl0 hl.1 hH hS (fun H1 locs1 hP hS1 => ?_)
  refine W.sized fun hle => ?_
  have hlen : (S.1.set h sh').length = S.1.length := by simp
  have hsl : slz (S.1.set h sh') = slz S.1 := by
    unfold slz
    rw [List.map_set, set_same]
    rw [List.getElem?_map, hs]
    show some (shz sh) = some (shz sh')
    rw [hz']
  refine K ls H1 locs1 cells slots hl (hH.row hs hσ (by omega) (Nat.le_trans hC.base hS1.1) hP) hS1 ?_ ?_
  · show cells + S.1.length = cells + (S.1.set h sh').length
    rw [hlen]
  · show slots + slz S.1 = slots + slz (S.1.set h sh')
    rw [hsl]
theorem range_map {α : Type} {f : Nat → α} {n k : Nat} (h : k < n) : ((List.range n).map f)[k]? = some (f k) := by
  rw [List.getElem?_map, List.getElem?_range h]
  rfl
theorem rl_orf (r : Option Nat) : rl Γ (orf r) = va_rf (r.map (adr Γ)) := by
  cases r <;> rfl
theorem fld_put {σ : Nat → Nat → Int32} {h k : Nat} {sh : aSh} {v : Int32} (hk : isRT (fty (sh.1 - 20) k) = false) : (List.range sh.2.1).map (fun j => rl Γ (fv (su σ h k v) h sh j)) = ((List.range sh.2.1).map (fun j => rl Γ (fv σ h sh j))).set k (.int v) := by
  apply List.ext_getElem?
  intro j
  by_cases hj : j < sh.2.1
  · rw [range_map hj]
    by_cases hjk : j = k
    · subst hjk
      rw [List.getElem?_set_self (by simpa using hj)]
      simp [fv, hk, su, sr_eq, upd, rl]
    · rw [List.getElem?_set_ne (Ne.symm hjk), range_map hj]
      unfold fv
      split
      · rfl
      · simp [su, sr_eq, upd, hjk]
  · rw [List.getElem?_eq_none (by simpa using hj), List.getElem?_eq_none (by simpa using hj)]
theorem fld_putR {σ : Nat → Nat → Int32} {h k r : Nat} {sh : aSh} (hk : isRT (fty (sh.1 - 20) k) = true) (hl : k < sh.2.2.length) : (List.range sh.2.1).map (fun j => rl Γ (fv σ h (sh.1, sh.2.1, sh.2.2.set k (some r)) j)) = ((List.range sh.2.1).map (fun j => rl Γ (fv σ h sh j))).set k (.ref (adr Γ r)) := by
  apply List.ext_getElem?
  intro j
  by_cases hj : j < sh.2.1
  · rw [range_map hj]
    by_cases hjk : j = k
    · subst hjk
      rw [List.getElem?_set_self (by simpa using hj)]
      simp [fv, hk, hl, orf, rl]
    · rw [List.getElem?_set_ne (Ne.symm hjk), range_map hj]
      simp only [fv, List.getD_eq_getElem?_getD, List.getElem?_set_ne (Ne.symm hjk)]
  · rw [List.getElem?_eq_none (by simpa using hj), List.getElem?_eq_none (by simpa using hj)]
theorem tys_Q {ci : Nat} (h2 : 2 ≤ ci) (h5 : ci < 5) : ∃ r, vwCl[ci]? = some r ∧ (tysL Γ)[ci]? = some (gQ Γ ci, .object r.1) := by
  rcases (by omega : ci = 2 ∨ ci = 3 ∨ ci = 4) with rfl | rfl | rfl
  · exact ⟨_, rfl, rfl⟩
  · exact ⟨_, rfl, rfl⟩
  · exact ⟨_, rfl, rfl⟩
theorem adr_hi {k : Nat} (h : 1000 ≤ k) : adr Γ k = gX Γ k := by
  unfold adr; rw [if_neg (by omega)]
theorem narrow_R {ty : FieldType} {a : Nat} (h : isRT ty = true) : narrow ty (.ref a) = .ref a ∧ fits ty (.ref a) = true := by
  cases ty <;> simp [isRT] at h <;> exact ⟨rfl, rfl⟩
theorem rdX_ok {h : Nat} {j v : Int32} (hh : rdX S h j = some v) : h = 1002 ∧ vp_in j 6 ∧ v = abv.getD (ix j) 0 := by
  unfold rdX at hh
  split at hh
  · rename_i h0
    split at hh
    · rename_i hi
      exact ⟨h0, inb_iff.mp hi, (Option.some.inj hh).symm⟩
    · cases hh
  · cases hh
theorem ab_lt {x : Int32} {k : Nat} (hin : vp_in x k) : x.toNatClampNeg < k := Nat.not_le.mp fun z => hin (Or.inr z)
/-- an element of a table outside -/
theorem lv_tab {p : Program} {l : Launch} {e : Env} {R : Room} {s : State} {m : MethodId} {args : Array Value} {below : List Frame} {meth : Method} {c : Code} {H : Heap} {locs : List Loc} {cells slots : Nat} {Q : State → Prop} {cc : ByteArray} {ls : Array Slot} {rest : List Value} {A : Nat → Prop} {pc t N : Nat} {f : Nat → Int32} {j : Int32} (hexec : p.tables.exec = Jvm.exec) (hb : c.code = cc) (hT : va_T .int t N (fun k => .int (f k)) A s s.heap) (hS : va_S A s.heap H locs) (hN : N < 2 ^ 31) (hin : vp_in j N) (hdg : decode cc pc = .ok (.iaload, 1))
    (kk : W p l e R s m args below meth c H locs cells slots Q (F0 m (pc + 1) ls (.int (f j.toNatClampNeg) :: rest))) : W p l e R s m args below meth c H locs cells slots Q (F0 m pc ls (.int j :: .ref t :: rest)) := by
  obtain ⟨cell, h1, h2, h3, h4, h5, h6, h7⟩ := hT.kept hS.2.1
  refine W.iald (v := .int (f j.toNatClampNeg)) hexec hb h1 h2 h3 (fun z => hin (z.imp id (fun z => Nat.le_trans h4 z))) (h6 _ (ab_lt hin)) rfl rfl hdg kk
theorem lv_tabB {p : Program} {l : Launch} {e : Env} {R : Room} {s : State} {m : MethodId} {args : Array Value} {below : List Frame} {meth : Method} {c : Code} {H : Heap} {locs : List Loc} {cells slots : Nat} {Q : State → Prop} {cc : ByteArray} {ls : Array Slot} {rest : List Value} {A : Nat → Prop} {pc t N : Nat} {f : Nat → Int32} {j : Int32} (hexec : p.tables.exec = Jvm.exec) (hb : c.code = cc) (hT : va_T .byte t N (fun k => .int (f k)) A s s.heap) (hS : va_S A s.heap H locs) (hin : vp_in j N) (hdg : decode cc pc = .ok (.baload, 1))
    (kk : W p l e R s m args below meth c H locs cells slots Q (F0 m (pc + 1) ls (.int (f j.toNatClampNeg) :: rest))) : W p l e R s m args below meth c H locs cells slots Q (F0 m pc ls (.int j :: .ref t :: rest)) := by
  obtain ⟨cell, h1, h2, h3, h4, h5, h6, h7⟩ := hT.kept hS.2.1
  refine W.bald (v := .int (f j.toNatClampNeg)) hexec hb h1 h2 h3 (fun z => hin (z.imp id (fun z => Nat.le_trans h4 z))) (h6 _ (ab_lt hin)) rfl rfl hdg kk
theorem lv_tabL {p : Program} {l : Launch} {e : Env} {R : Room} {s : State} {m : MethodId} {args : Array Value} {below : List Frame} {meth : Method} {c : Code} {H : Heap} {locs : List Loc} {cells slots : Nat} {Q : State → Prop} {cc : ByteArray} {ls : Array Slot} {rest : List Value} {A : Nat → Prop} {pc t N : Nat} {f : Nat → Value} {ty : FieldType} (hexec : p.tables.exec = Jvm.exec) (hb : c.code = cc) (hT : va_T ty t N f A s s.heap) (hS : va_S A s.heap H locs) (hdg : decode cc pc = .ok (.arraylength, 1))
    (kk : W p l e R s m args below meth c H locs cells slots Q (F0 m (pc + 1) ls (.int (Int32.ofNat N) :: rest))) : W p l e R s m args below meth c H locs cells slots Q (F0 m pc ls (.ref t :: rest)) := by
  obtain ⟨cell, h1, h2, h3, h4, h5, h6, h7⟩ := hT.kept hS.2.1
  exact W.alen hexec hb h1 h2 h5 rfl rfl hdg kk
/-- a step that reads, with the heap at hand -/
theorem aStep.read {pc' : Nat} {st' : List Value}
    (h : ∀ (p : Program) (l : Launch) (e : Env) (R : Room) (s : State) (m : MethodId) (args : Array Value) (below : List Frame) (meth : Method) (c : Code) (H : Heap) (locs : List Loc) (cells slots : Nat) (Q : State → Prop) (ls : Array Slot),
      aCtx Γ p s m args meth c q → d ≤ R.frames → 64 * d ≤ R.locals → ls.size = q.2.2.1 → RH Γ S H → va_S (gA Γ) s.heap H locs → cells ≤ R.cells → slots ≤ R.slots → W p l e R s m args below meth c H locs cells slots Q (F0 m pc' ls (st'.map (rl Γ))) → W p l e R s m args below meth c H locs cells slots Q (F0 m pc ls (st.map (rl Γ)))) : aStep Γ q pc L st S d pc' L st' S := by
  intro p l e R s m args below meth c H locs cells slots Q ls hC hf hl0 hl hH hS hz h1 h2 K
  exact h p l e R s m args below meth c H locs cells slots Q ls hC hf hl0 hl.1 hH hS (by omega) (by omega) (K ls H locs cells slots hl hH hS rfl rfl)
theorem hs_getfield {x h : Nat} {e : Nat × Nat × Nat × Nat × Nat} {sh : aSh} {st0 : List Value} (hd : decode q.2.1 pc = .ok (.getfield x, 3)) (he : fldE q.2.2.2.2 x = some e) (hsh : shO S h e.2.2.1 e.2.2.2.1 = some sh) :
    aStep Γ q pc L (.ref h :: st0) S d (pc + 3) L (fv S.2 h sh e.2.2.2.1 :: st0) S := by
  refine aStep.read fun p l ee R s m args below meth c H locs cells slots Q ls hC hf hlo hls hH hS hc0 hs0 k => ?_
  obtain ⟨h1, h2, h3⟩ := shO_ok hsh
  obtain ⟨r, g1, g2, g3, g4, g5⟩ := fld_ok he
  obtain ⟨c1, c2, c3, c4⟩ := cls_ok g1
  have hw := wld_at (Γ := Γ) h1
  rw [wc_o (by omega)] at hw
  have hci : sh.1 - 20 = e.2.2.1 := by omega
  have ha : adr Γ h = gB Γ + h := adr_lt hH h1
  show W p l ee R s m args below meth c H locs cells slots Q (F0 m pc ls (.ref (adr Γ h) :: st0.map (rl Γ)))
  rw [ha]
  rw [hci] at hw
  exact va_get (C := r.1) (T := r.2.1) (N := r.2.2) hC.1 hC.2.1 (fun w hw => hC.w hw) c1 hC.own hC.ex.1 hH.2.2 h hw g1 e.2.2.2.1 g2 (hC.w g3) (fun x hx => hx) (range_map h3) hd k
theorem hs_getstr {x h : Nat} {e : Nat × Nat × Nat × Nat} {st0 : List Value} (hd : decode q.2.1 pc = .ok (.getfield x, 3)) (he : sfdE q.2.2.2.2 x = some e) (h1 : 1010 ≤ h) (h2 : h < 1021) :
    aStep Γ q pc L (.ref h :: st0) S d (pc + 3) L ((if e.2.2.1 = 0 then .ref (h + 20) else .int 0) :: st0) S := by
  refine aStep.read fun p l ee R s m args below meth c H locs cells slots Q ls hC hf hlo hls hH hS hc0 hs0 k => ?_
  have g := sfd_ok he
  have hE := (hC.ex.2.2.2.1).1 (h - 1010) (by omega)
  have ha : adr Γ h = gX Γ (1010 + (h - 1010)) := by rw [adr_hi (by omega), show 1010 + (h - 1010) = h by omega]
  show W p l ee R s m args below meth c H locs cells slots Q (F0 m pc ls (.ref (adr Γ h) :: st0.map (rl Γ)))
  rw [ha]
  by_cases h0 : e.2.2.1 = 0
  · rw [if_pos h0] at k g
    rw [if_pos h0] at g
    have hb : adr Γ (h + 20) = gX Γ (1030 + (h - 1010)) := by rw [adr_hi (by omega), show 1030 + (h - 1010) = h + 20 by omega]
    refine vk_getf (v := .ref (gX Γ (1030 + (h - 1010)))) hC.1 hC.2.1 hE.2.2.1 hS hC.own (hC.w g) (fun x hx => hx) hd ?_
    rw [← hb]
    exact k
  · rw [if_neg h0] at k g
    rw [if_neg h0] at g
    exact vk_getf (v := .int 0) hC.1 hC.2.1 hE.2.1 hS hC.own (hC.w g) (fun x hx => hx) hd k
theorem hs_putI {x h : Nat} {e : Nat × Nat × Nat × Nat × Nat} {sh : aSh} {st0 : List Value} {v : Int32} (hd : decode q.2.1 pc = .ok (.putfield x, 3)) (he : fldE q.2.2.2.2 x = some e) (hsh : shO S h e.2.2.1 e.2.2.2.1 = some sh)
    (hv : fty e.2.2.1 e.2.2.2.1 = .int ∨ (fty e.2.2.1 e.2.2.2.1 = .boolean ∧ (v = 0 ∨ v = 1))) : aStep Γ q pc L (.int v :: .ref h :: st0) S d (pc + 3) L st0 (S.1, su S.2 h e.2.2.2.1 v) := by
  obtain ⟨h1, h2, h3⟩ := shO_ok hsh
  obtain ⟨r, g1, g2, g3, g4, g5⟩ := fld_ok he
  obtain ⟨c1, c2, c3, c4⟩ := cls_ok g1
  have hci : sh.1 - 20 = e.2.2.1 := by omega
  have hnr : isRT (fty e.2.2.1 e.2.2.2.1) = false := by
    rcases hv with hv | ⟨hv, -⟩ <;> rw [hv] <;> rfl
  have hnf : narrow (fty e.2.2.1 e.2.2.2.1) (.int v) = .int v ∧ fits (fty e.2.2.1 e.2.2.2.1) (.int v) = true := by
    rcases hv with hv | ⟨hv, rfl | rfl⟩ <;> rw [hv] <;> exact ⟨rfl, rfl⟩
  have key : aStep Γ q pc L (.int v :: .ref h :: st0) S d (pc + 3) L st0 (S.1.set h sh, su S.2 h e.2.2.2.1 v) := by
    refine aStep.row h1 (fun k hk => sr_ne hk) rfl fun p l ee R s m args below meth c H locs cells slots Q ls hC hf hlo hls hH hS k => ?_
    have hw := wld_at (Γ := Γ) h1
    rw [wc_o (by omega), hci] at hw
    have ha : adr Γ h = gB Γ + h := adr_lt hH h1
    show W p l ee R s m args below meth c H locs cells slots Q (F0 m pc ls (.int v :: .ref (adr Γ h) :: st0.map (rl Γ)))
    rw [ha]
    refine va_put (C := r.1) (T := r.2.1) (N := r.2.2) hC.1 hC.2.1 (fun w hw => hC.w hw) c1 (fty e.2.2.1) c2 c3 hC.own hC.ex.1 hH.2.2 wld_D hS h hw g1 e.2.2.2.1 g2 (hC.w g3) (fun x hx => hx) (by rw [g5]; exact hnr) (c2 _ g2) hnf.1 hnf.2 (by simpa using h3) hd (fun H1 locs1 hP _ hS1 => k H1 locs1 ?_ hS1)
    rw [wc_o (by omega), fld_put (by rw [hci]; exact hnr), hci]
    exact hP
  rw [set_same h1] at key
  exact key
theorem hs_putR {x h r0 : Nat} {e : Nat × Nat × Nat × Nat × Nat} {sh : aSh} {st0 : List Value} (hd : decode q.2.1 pc = .ok (.putfield x, 3)) (he : fldE q.2.2.2.2 x = some e) (hsh : shO S h e.2.2.1 e.2.2.2.1 = some sh)
    (hr : isRT (fty e.2.2.1 e.2.2.2.1) = true) (hn : q.1.name = "<init>") (hcl : (vwCl.getD e.2.2.1 ("", fun _ => ("", "", "", false), 0)).1 = q.1.cls) (hlen : e.2.2.2.1 < sh.2.2.length) :
    aStep Γ q pc L (.ref r0 :: .ref h :: st0) S d (pc + 3) L st0 (S.1.set h (sh.1, sh.2.1, sh.2.2.set e.2.2.2.1 (some r0)), S.2) := by
  obtain ⟨h1, h2, h3⟩ := shO_ok hsh
  obtain ⟨r, g1, g2, g3, g4, g5⟩ := fld_ok he
  obtain ⟨c1, c2, c3, c4⟩ := cls_ok g1
  have hci : sh.1 - 20 = e.2.2.1 := by omega
  refine aStep.row h1 (fun k hk => rfl) rfl fun p l ee R s m args below meth c H locs cells slots Q ls hC hf hlo hls hH hS k => ?_
  have hw := wld_at (Γ := Γ) h1
  rw [wc_o (by omega), hci] at hw
  have ha : adr Γ h = gB Γ + h := adr_lt hH h1
  show W p l ee R s m args below meth c H locs cells slots Q (F0 m pc ls (.ref (adr Γ r0) :: .ref (adr Γ h) :: st0.map (rl Γ)))
  rw [ha]
  have hdecl : (r.2.1 e.2.2.2.1).1 = ownN q.2.2.2.2 := by
    rw [← g4, ← hC.2.2.2.2.2.2.2.2, ← hcl, List.getD_eq_getElem?_getD, g1]
    rfl
  refine va_putF (C := r.1) (T := r.2.1) (N := r.2.2) hC.1 hC.2.1 (fun w hw => hC.w hw) c1 (fty e.2.2.1) c2 c3 hC.own hC.ex.1 hH.2.2 wld_D hS h hw g1 e.2.2.2.1 g2 (hC.w g3) (fun x hx => hx) (by rw [g5]; exact hr) (by rw [hC.2.2.2.2.1]; exact hn) hdecl (c2 _ g2) (narrow_R hr).1 (narrow_R hr).2 (by simpa using h3) hd (fun H1 locs1 hP _ hS1 => k H1 locs1 ?_ hS1)
  rw [wc_o (sh := (sh.1, sh.2.1, sh.2.2.set e.2.2.2.1 (some r0))) (by show 20 ≤ sh.1; omega)]
  show va_P _ _ (List.set _ h (_, .inr (sh.1 - 20, (List.range sh.2.1).map (fun j => rl Γ (fv S.2 h (sh.1, sh.2.1, sh.2.2.set e.2.2.2.1 (some r0)) j))))) H1
  rw [fld_putR (by rw [hci]; exact hr) hlen, hci]
  exact hP
theorem hs_gets {x : Nat} {e : Nat × Nat × Nat × Nat} (hd : decode q.2.1 pc = .ok (.getstatic x, 3)) (he : gstE q.2.2.2.2 x = some e) : aStep Γ q pc L st S d (pc + 3) L ((if e.2.2.1 = 0 then .ref 1002 else if e.2.2.1 = 1 then .int 1 else .retAddr 0) :: st) S := by
  refine aStep.read fun p l ee R s m args below meth c H locs cells slots Q ls hC hf hlo hls hH hS hc0 hs0 k => ?_
  have g := gst_ok he
  by_cases h0 : e.2.2.1 = 0
  · rw [if_pos h0] at k
    simp only [gsC, gsN, gsD, h0, if_true] at g
    refine va_gets hC.1 hC.2.1 hC.ex.2.2.2.2.1.1 hS hC.own (hC.w g) (fun x hx => hx) hd ?_
    have e1 : adr Γ 1002 = gX Γ 1002 := adr_hi (by omega)
    rw [← e1]
    exact k
  · rw [if_neg h0] at k
    by_cases h1 : e.2.2.1 = 1
    · rw [if_pos h1] at k
      simp only [gsC, gsN, gsD, h1, if_neg (show ¬ (1 : Nat) = 0 by decide), if_true] at g
      exact va_gets hC.1 hC.2.1 hC.ex.2.2.2.2.2.1.1 hS hC.own (hC.w g) (fun x hx => hx) hd k
    · rw [if_neg h1] at k
      simp only [gsC, gsN, gsD, h0, h1, if_false] at g
      exact va_gets hC.1 hC.2.1 hC.ex.2.2.2.2.2.1.2.1 hS hC.own (hC.w g) (fun x hx => hx) hd k
end Heap
section Heap2
variable {Γ : aG} {d mi : Nat} {q : aMt} {pc n : Nat} {i : Instr} {L : aLo} {st : List Value} {S : aSt} {o : aOut}
theorem hs_iald {h : Nat} {j v : Int32} {st0 : List Value} (hd : decode q.2.1 pc = .ok (.iaload, 1)) (hv : rdI S h j = some v) : aStep Γ q pc L (.int j :: .ref h :: st0) S d (pc + 1) L (.int v :: st0) S := by
  refine aStep.read fun p l ee R s m args below meth c H locs cells slots Q ls hC hf hlo hls hH hS hc0 hs0 k => ?_
  unfold rdI at hv
  split at hv
  · rename_i sh hs
    split at hv
    · rename_i hc
      cases hv
      have hw := wld_at (Γ := Γ) hs
      rw [wc_0 hc.1] at hw
      have ha : adr Γ h = gB Γ + h := adr_lt hH hs
      show W p l ee R s m args below meth c H locs cells slots Q (F0 m pc ls (.int j :: .ref (adr Γ h) :: st0.map (rl Γ)))
      rw [ha]
      exact va_iald hC.1 hC.2.1 hC.ex.1 hH.2.2 h 0 hw rfl (inb_iff.mp hc.2) hd k
    · cases hv
  · obtain ⟨rfl, h1, rfl⟩ := rdX_ok hv
    have ha : adr Γ 1002 = gX Γ 1002 := adr_hi (by omega)
    show W p l ee R s m args below meth c H locs cells slots Q (F0 m pc ls (.int j :: .ref (adr Γ 1002) :: st0.map (rl Γ)))
    rw [ha]
    exact lv_tab (f := fun k => abv.getD k 0) hC.1 hC.2.1 hC.ex.2.2.2.2.1.2 hS (by decide) h1 hd k
theorem hs_sld {h : Nat} {j : Int32} {st0 : List Value} (hd : decode q.2.1 pc = .ok (.iaload, 1)) (hh : h = 1000) (hj : inb j (gL Γ) = true) : aStep Γ q pc L (.int j :: .ref h :: st0) S d (pc + 1) L (.int (gx Γ (ix j)) :: st0) S := by
  subst hh
  refine aStep.read fun p l ee R s m args below meth c H locs cells slots Q ls hC hf hlo hls hH hS hc0 hs0 k => ?_
  have ha : adr Γ 1000 = gb Γ := by rw [adr_hi (by omega)]; exact hC.ex.2.2.2.2.2.2.1.2.1
  obtain ⟨x1, x2, x3, x4⟩ := hC.ex.2.2.2.2.2.2.1
  show W p l ee R s m args below meth c H locs cells slots Q (F0 m pc ls (.int j :: .ref (adr Γ 1000) :: st0.map (rl Γ)))
  rw [ha]
  exact va_sld hC.1 hC.2.1 x1 (Nat.lt_of_lt_of_le x3 hC.base) (by unfold gA; omega) hS (inb_iff.mp hj) hd k
theorem hs_bald {h : Nat} {j v : Int32} {st0 : List Value} (hd : decode q.2.1 pc = .ok (.baload, 1)) (hv : rdB S h j = some v) : aStep Γ q pc L (.int j :: .ref h :: st0) S d (pc + 1) L (.int v :: st0) S := by
  refine aStep.read fun p l ee R s m args below meth c H locs cells slots Q ls hC hf hlo hls hH hS hc0 hs0 k => ?_
  unfold rdB at hv
  split at hv
  · rename_i sh hs
    split at hv
    · rename_i hc
      cases hv
      have hw := wld_at (Γ := Γ) hs
      rw [wc_1 hc.1] at hw
      have ha : adr Γ h = gB Γ + h := adr_lt hH hs
      show W p l ee R s m args below meth c H locs cells slots Q (F0 m pc ls (.int j :: .ref (adr Γ h) :: st0.map (rl Γ)))
      rw [ha]
      exact va_bald hC.1 hC.2.1 hC.ex.1 hH.2.2 h 1 hw rfl (inb_iff.mp hc.2) hd k
    · cases hv
  · split at hv
    · rename_i hc
      obtain ⟨h1, h2, h3⟩ := hc
      have hv := Option.some.inj hv
      rw [← hv] at k
      have hE := (hC.ex.2.2.2.1).1 (h - 1030) (by omega)
      have ha : adr Γ h = gX Γ (1030 + (h - 1030)) := by rw [adr_hi (by omega), show 1030 + (h - 1030) = h by omega]
      show W p l ee R s m args below meth c H locs cells slots Q (F0 m pc ls (.int j :: .ref (adr Γ h) :: st0.map (rl Γ)))
      rw [ha]
      have hl : (strX.map List.length).getD (h - 1030) 0 = (strX.getD (h - 1030) []).length := by
        simp only [List.getD_eq_getElem?_getD, List.getElem?_map]
        cases strX[h - 1030]? <;> rfl
      have hT := hE.2.2.2
      rw [hl] at hT
      exact lv_tabB (f := fun k => (strX.getD (h - 1030) []).getD k 0) hC.1 hC.2.1 hT hS (inb_iff.mp h3) hd k
    · cases hv
theorem hs_iast {h : Nat} {j v : Int32} {sh : aSh} {st0 : List Value} (hd : decode q.2.1 pc = .ok (.iastore, 1)) (hsh : shA S h 0 j = some sh) : aStep Γ q pc L (.int v :: .int j :: .ref h :: st0) S d (pc + 1) L st0 (S.1, su S.2 h (ix j) v) := by
  obtain ⟨h1, h2, h3⟩ := shA_ok hsh
  have key : aStep Γ q pc L (.int v :: .int j :: .ref h :: st0) S d (pc + 1) L st0 (S.1.set h sh, su S.2 h (ix j) v) := by
    refine aStep.row h1 (fun k hk => sr_ne hk) rfl fun p l ee R s m args below meth c H locs cells slots Q ls hC hf hlo hls hH hS k => ?_
    have hw := wld_at (Γ := Γ) h1
    rw [wc_0 h2] at hw
    have ha : adr Γ h = gB Γ + h := adr_lt hH h1
    show W p l ee R s m args below meth c H locs cells slots Q (F0 m pc ls (.int v :: .int j :: .ref (adr Γ h) :: st0.map (rl Γ)))
    rw [ha]
    refine va_iast hC.1 hC.2.1 hC.ex.1 hH.2.2 wld_D hS h 0 hw rfl h3 hd (fun H1 locs1 hP _ hS1 => k H1 locs1 ?_ hS1)
    rw [wc_0 h2]
    unfold su
    rw [sr_eq]
    exact hP
  rw [set_same h1] at key
  exact key
theorem hs_bast {h : Nat} {j v : Int32} {sh : aSh} {st0 : List Value} (hd : decode q.2.1 pc = .ok (.bastore, 1)) (hsh : shA S h 1 j = some sh) : aStep Γ q pc L (.int v :: .int j :: .ref h :: st0) S d (pc + 1) L st0 (S.1, su S.2 h (ix j) v.toInt8.toInt32) := by
  obtain ⟨h1, h2, h3⟩ := shA_ok hsh
  have key : aStep Γ q pc L (.int v :: .int j :: .ref h :: st0) S d (pc + 1) L st0 (S.1.set h sh, su S.2 h (ix j) v.toInt8.toInt32) := by
    refine aStep.row h1 (fun k hk => sr_ne hk) rfl fun p l ee R s m args below meth c H locs cells slots Q ls hC hf hlo hls hH hS k => ?_
    have hw := wld_at (Γ := Γ) h1
    rw [wc_1 h2] at hw
    have ha : adr Γ h = gB Γ + h := adr_lt hH h1
    show W p l ee R s m args below meth c H locs cells slots Q (F0 m pc ls (.int v :: .int j :: .ref (adr Γ h) :: st0.map (rl Γ)))
    rw [ha]
    refine va_bast hC.1 hC.2.1 hC.ex.1 hH.2.2 wld_D hS h 1 hw rfl h3 hd (fun H1 locs1 hP _ hS1 => k H1 locs1 ?_ hS1)
    rw [wc_1 h2]
    unfold su
    rw [sr_eq, ← vp_nar_byte]
    exact hP
  rw [set_same h1] at key
  exact key
theorem hs_aald {h : Nat} {j : Int32} {sh : aSh} {st0 : List Value} (hd : decode q.2.1 pc = .ok (.aaload, 1)) (hs : S.1[h]? = some sh) (h4 : 4 ≤ sh.1) (h7 : sh.1 < 7) (hin : inb j sh.2.1 = true) : aStep Γ q pc L (.int j :: .ref h :: st0) S d (pc + 1) L (orf (sh.2.2.getD (ix j) none) :: st0) S := by
  refine aStep.read fun p l ee R s m args below meth c H locs cells slots Q ls hC hf hlo hls hH hS hc0 hs0 k => ?_
  have hw := wld_at (Γ := Γ) hs
  rw [wc_q h4 h7] at hw
  have ha : adr Γ h = gB Γ + h := adr_lt hH hs
  obtain ⟨r, r1, r2⟩ := tys_Q (Γ := Γ) (ci := sh.1 - 2) (by omega) (by omega)
  show W p l ee R s m args below meth c H locs cells slots Q (F0 m pc ls (.int j :: .ref (adr Γ h) :: st0.map (rl Γ)))
  rw [ha]
  refine va_aldq hC.1 hC.2.1 hC.ex.1 hH.2.2 h (sh.1 - 2) hw r2 (inb_iff.mp hin) hd ?_
  have k' : W p l ee R s m args below meth c H locs cells slots Q (F0 m (pc + 1) ls (rl Γ (orf (sh.2.2.getD (ix j) none)) :: st0.map (rl Γ))) := k
  rw [rl_orf] at k'
  exact k'
theorem hs_aast {h r0 : Nat} {j : Int32} {sh sh0 : aSh} {st0 : List Value} (hd : decode q.2.1 pc = .ok (.aastore, 1)) (hs : S.1[h]? = some sh) (hs0 : S.1[r0]? = some sh0) (h4 : 4 ≤ sh.1) (h7 : sh.1 < 7) (hin : inb j sh.2.1 = true) (hk : sh0.1 = sh.1 + 18) (hlen : ix j < sh.2.2.length) :
    aStep Γ q pc L (.ref r0 :: .int j :: .ref h :: st0) S d (pc + 1) L st0 (S.1.set h (sh.1, sh.2.1, sh.2.2.set (ix j) (some r0)), S.2) := by
  refine aStep.row hs (fun k hk => rfl) rfl fun p l ee R s m args below meth c H locs cells slots Q ls hC hf hlo hls hH hS k => ?_
  have hw := wld_at (Γ := Γ) hs
  rw [wc_q h4 h7] at hw
  have hw0 := wld_at (Γ := Γ) hs0
  rw [wc_o (by omega)] at hw0
  have ha : adr Γ h = gB Γ + h := adr_lt hH hs
  have ha0 : adr Γ r0 = gB Γ + r0 := adr_lt hH hs0
  obtain ⟨r, r1, r2⟩ := tys_Q (Γ := Γ) (ci := sh.1 - 2) (by omega) (by omega)
  show W p l ee R s m args below meth c H locs cells slots Q (F0 m pc ls (.ref (adr Γ r0) :: .int j :: .ref (adr Γ h) :: st0.map (rl Γ)))
  rw [ha, ha0]
  have e1 : sh0.1 - 20 = sh.1 - 2 := by omega
  rw [e1] at hw0
  refine va_astq hC.1 hC.2.1 hC.ex.1 hH.2.2 wld_D hS h (sh.1 - 2) r0 (sh.1 - 2) hw r2 hw0 r1 (inb_iff.mp hin) hd (fun H1 locs1 hP _ hS1 => k H1 locs1 ?_ hS1)
  rw [wc_q (sh := (sh.1, sh.2.1, sh.2.2.set (ix j) (some r0))) h4 h7]
  have ef : (fun i => (((sh.2.2.set (ix j) (some r0)).getD i none).map (adr Γ))) = va_up (fun i => (sh.2.2.getD i none).map (adr Γ)) j.toNatClampNeg (some (gB Γ + r0)) := by
    funext i
    unfold va_up
    by_cases hi : i = j.toNatClampNeg
    · subst hi
      have hl' : j.toNatClampNeg < sh.2.2.length := hlen
      simp [ix, hl', ha0]
    · rw [if_neg hi]
      have hi' : ¬ ix j = i := fun z => hi z.symm
      simp only [List.getD_eq_getElem?_getD, List.getElem?_set_ne hi']
  show va_P _ _ (List.set _ h (_, .inl (gQ Γ (sh.1 - 2), sh.2.1, .inr (.inr (.inr (.inr (fun i => (((sh.2.2.set (ix j) (some r0)).getD i none).map (adr Γ))))))))) H1
  rw [ef]
  exact hP
theorem hs_alen {h : Nat} {st0 : List Value} (hd : decode q.2.1 pc = .ok (.arraylength, 1)) (hh : h = 1000) : aStep Γ q pc L (.ref h :: st0) S d (pc + 1) L (.int (Int32.ofNat (gL Γ)) :: st0) S := by
  subst hh
  refine aStep.read fun p l ee R s m args below meth c H locs cells slots Q ls hC hf hlo hls hH hS hc0 hs0 k => ?_
  have ha : adr Γ 1000 = gb Γ := by rw [adr_hi (by omega)]; exact hC.ex.2.2.2.2.2.2.1.2.1
  obtain ⟨x1, x2, x3, x4⟩ := hC.ex.2.2.2.2.2.2.1
  show W p l ee R s m args below meth c H locs cells slots Q (F0 m pc ls (.ref (adr Γ 1000) :: st0.map (rl Γ)))
  rw [ha]
  exact va_slen hC.1 hC.2.1 x1 (Nat.lt_of_lt_of_le x3 hC.base) (by unfold gA; omega) hS hd k
theorem hs_alenT {h : Nat} {st0 : List Value} (hd : decode q.2.1 pc = .ok (.arraylength, 1)) (h1 : 1030 ≤ h) (h2 : h < 1041) : aStep Γ q pc L (.ref h :: st0) S d (pc + 1) L (.int (Int32.ofNat (strX.getD (h - 1030) []).length) :: st0) S := by
  refine aStep.read fun p l ee R s m args below meth c H locs cells slots Q ls hC hf hlo hls hH hS hc0 hs0 k => ?_
  have hE := (hC.ex.2.2.2.1).1 (h - 1030) (by omega)
  have ha : adr Γ h = gX Γ (1030 + (h - 1030)) := by rw [adr_hi (by omega), show 1030 + (h - 1030) = h by omega]
  show W p l ee R s m args below meth c H locs cells slots Q (F0 m pc ls (.ref (adr Γ h) :: st0.map (rl Γ)))
  rw [ha]
  have hl : (strX.map List.length).getD (h - 1030) 0 = (strX.getD (h - 1030) []).length := by
    simp only [List.getD_eq_getElem?_getD, List.getElem?_map]
    cases strX[h - 1030]? <;> rfl
  have hT := hE.2.2.2
  rw [hl] at hT
  exact lv_tabL hC.1 hC.2.1 hT hS hd k
/-- a step that makes a cell -/
theorem aStep.alloc {pc' : Nat} {sh : aSh} {st' : List Value} (hlen : S.1.length < 900)
    (k : ∀ (p : Program) (l : Launch) (e : Env) (R : Room) (s : State) (m : MethodId) (args : Array Value) (below : List Frame) (meth : Method) (c : Code) (H : Heap) (locs : List Loc) (cells slots : Nat) (Q : State → Prop) (ls : Array Slot),
      aCtx Γ p s m args meth c q → RH Γ S H → H.size = gB Γ + S.1.length → cells + 1 ≤ R.cells → slots + shz sh ≤ R.slots →
      (∀ H1 : Heap, H1.size = H.size + 1 → (∀ x : Nat, x < H.size → H1[x]? = H[x]?) → va_at (gD Γ) vwCl (gB Γ + S.1.length, wcell Γ (sr S.2 S.1.length (fun _ => 0)) S.1.length sh) H1 → W p l e R s m args below meth c H1 locs (cells + 1) (slots + shz sh) Q (F0 m pc' ls (st'.map (rl Γ)))) →
      W p l e R s m args below meth c H locs cells slots Q (F0 m pc ls (st.map (rl Γ)))) : aStep Γ q pc L st S d pc' L st' (alS S sh) := by
  intro p l e R s m args below meth c H locs cells slots Q ls hC hf hl0 hl hH hS hz h1 h2 K
  have e1 : (alS S sh).1.length = S.1.length + 1 := by simp [alS]
  have e2 : slz (alS S sh).1 = slz S.1 + shz sh := by simp [alS, slz]
  refine k p l e R s m args below meth c H locs cells slots Q ls hC hH hH.1 (by omega) (by omega) (fun H1 z1 o1 hat => K ls H1 locs (cells + 1) (slots + shz sh) hl ?_ ?_ (by omega) (by omega))
  · refine ⟨by rw [z1, hH.1, e1]; omega, by omega, ?_⟩
    · intro kk x hx
      unfold wld at hx
      rw [List.getElem?_mapIdx] at hx
      by_cases hk : kk < S.1.length
      · have h3 : (alS S sh).1[kk]? = S.1[kk]? := by simp [alS, List.getElem?_append_left hk]
        rw [h3] at hx
        have hw : (wld Γ S)[kk]? = some x := by
          unfold wld
          rw [List.getElem?_mapIdx, ← hx]
          have es : (alS S sh).2 kk = S.2 kk := sr_ne (by omega)
          cases S.1[kk]? with
          | none => rfl
          | some s0 =>
            have ew : wcell Γ (alS S sh).2 kk s0 = wcell Γ S.2 kk s0 := by
              have hfv : ∀ j, fv (alS S sh).2 kk s0 j = fv S.2 kk s0 j := by
                intro j
                unfold fv
                rw [es]
              unfold wcell
              rw [es]
              simp only [hfv]
            simp [ew]
        exact (hH.2.2 kk x hw).kept (o1 x.1 (hH.2.2 kk x hw).lt)
      · by_cases hk2 : kk = S.1.length
        · subst hk2
          have h3 : (alS S sh).1[S.1.length]? = some sh := by simp [alS]
          rw [h3] at hx
          cases hx
          exact hat
        · rw [List.getElem?_eq_none (by omega)] at hx
          cases hx
  · exact ⟨Nat.le_trans hS.1 (by omega), fun x g1 g2 => (o1 x (Nat.lt_of_lt_of_le g1 hS.1)).trans (hS.2.1 x g1 g2), hS.2.2⟩
theorem hs_newarr {t : ArrayType} {kn : Int32} {st0 : List Value} (hd : decode q.2.1 pc = .ok (.newarray t, 2)) (hlen : S.1.length < 900) (hn : ¬ kn < 0) (hN : ix kn ≤ 4000) (ht : t = .int ∨ t = .byte) :
    aStep Γ q pc L (.int kn :: st0) S d (pc + 2) L (.ref S.1.length :: st0) (alS S (if t = .int then 0 else 1, ix kn, [])) := by
  refine aStep.alloc hlen fun p l ee R s m args below meth c H locs cells slots Q ls hC hH hsz hc hs k => ?_
  have ha : adr Γ S.1.length = H.size := by unfold adr; rw [if_pos (by omega), hsz]
  have k' : ∀ H1 : Heap, H1.size = H.size + 1 → (∀ x : Nat, x < H.size → H1[x]? = H[x]?) → va_at (gD Γ) vwCl (gB Γ + S.1.length, wcell Γ (sr S.2 S.1.length (fun _ => 0)) S.1.length (if t = .int then 0 else 1, ix kn, [])) H1 → W p l ee R s m args below meth c H1 locs (cells + 1) (slots + ix kn) Q (F0 m (pc + 2) ls (.ref (adr Γ S.1.length) :: st0.map (rl Γ))) := k
  rw [ha] at k'
  rcases ht with rfl | rfl
  · refine va_newaK (atype := .int) hC.1 hC.2.1 (hC.w arr_I) rfl hd (n := kn) (N := ix kn) rfl hn rfl (by show ix kn * 4 ≤ _; omega) hc hs rfl (fun H1 cA e1 z1 o1 hAr hNm => k' H1 z1 o1 ?_)
    have e2 : cA = gI Γ := Option.some.inj (hNm.symm.trans ((hC.ex.1.2 0 _ rfl).2))
    rw [wc_0 rfl, sr_eq, ← hsz, ← e2]
    exact e1
  · refine va_newaK (atype := .byte) hC.1 hC.2.1 (hC.w arr_B) rfl hd (n := kn) (N := ix kn) rfl hn rfl (by show ix kn * 1 ≤ _; omega) hc hs rfl (fun H1 cA e1 z1 o1 hAr hNm => k' H1 z1 o1 ?_)
    have e2 : cA = gY Γ := Option.some.inj (hNm.symm.trans ((hC.ex.1.2 1 _ rfl).2))
    rw [wc_1 rfl, sr_eq, ← hsz, ← e2]
    exact e1
theorem rep_none (n j : Nat) : (List.replicate n (none : Option Nat)).getD j none = none := by
  rw [List.getD_eq_getElem?_getD, List.getElem?_replicate]
  split <;> rfl
theorem def_ok {ci j : Nat} {r : vw_C} (hr : vwCl[ci]? = some r) (hj : j < r.2.2) : defaultValue (fty ci j) = rl Γ (if isRT (fty ci j) = true then orf none else .int 0) := by
  have h8 := (cls_ok hr).2.2.2
  have h1 := List.all_eq_true.mp chk_ty ci (List.mem_range.mpr h8)
  have er : vwCl.getD ci ("", fun _ => ("", "", "", false), 0) = r := by rw [List.getD_eq_getElem?_getD, hr]; rfl
  rw [er] at h1
  have h2 := List.all_eq_true.mp h1 j (List.mem_range.mpr hj)
  cases ht : fty ci j <;> rw [ht] at h2 <;> first | rfl | cases h2
theorem hs_new {x : Nat} {e : Nat × Nat × Nat × Nat} (hd : decode q.2.1 pc = .ok (.new x, 3)) (he : newE q.2.2.2.2 x = some e) (hlen : S.1.length < 900) :
    aStep Γ q pc L st S d (pc + 3) L (.ref S.1.length :: st) (alS S (20 + e.2.2.1, (vwCl.getD e.2.2.1 ("", fun _ => ("", "", "", false), 0)).2.2, List.replicate (vwCl.getD e.2.2.1 ("", fun _ => ("", "", "", false), 0)).2.2 none)) := by
  obtain ⟨r, g1, g2, g3, g4⟩ := new_ok he
  obtain ⟨c1, c2, c3, c4⟩ := cls_ok g1
  have er : vwCl.getD e.2.2.1 ("", fun _ => ("", "", "", false), 0) = r := by rw [List.getD_eq_getElem?_getD, g1]; rfl
  rw [er]
  refine aStep.alloc hlen fun p l ee R s m args below meth c H locs cells slots Q ls hC hH hsz hc hs k => ?_
  have ha : adr Γ S.1.length = H.size := by unfold adr; rw [if_pos (by omega), hsz]
  have k' : ∀ H1 : Heap, H1.size = H.size + 1 → (∀ x : Nat, x < H.size → H1[x]? = H[x]?) → va_at (gD Γ) vwCl (gB Γ + S.1.length, wcell Γ (sr S.2 S.1.length (fun _ => 0)) S.1.length (20 + e.2.2.1, r.2.2, List.replicate r.2.2 none)) H1 → W p l ee R s m args below meth c H1 locs (cells + 1) (slots + r.2.2) Q (F0 m (pc + 3) ls (.ref (adr Γ S.1.length) :: st.map (rl Γ))) := k
  rw [ha] at k'
  have hKn := hC.ex.1.1 e.2.2.1 r g1
  refine W.newcK hC.1 hC.2.1 hC.own (hC.w g2) (hC.w g3) (hC.w g4) rfl hd hc hs hKn.2.1 rfl fun H1 kC hkC e1 z1 o1 => k' H1 z1 o1 ?_
  rw [wc_o (by show 20 ≤ 20 + _; omega)]
  refine ⟨r, ?_, ?_⟩
  · show vwCl[20 + e.2.2.1 - 20]? = some r
    rw [Nat.add_sub_cancel_left]; exact g1
  · show t_OB (gB Γ + S.1.length) ((gD Γ).1 (20 + e.2.2.1 - 20)) r.2.2 ((gD Γ).2 (20 + e.2.2.1 - 20)) H1 _
    rw [Nat.add_sub_cancel_left, ← hsz]
    refine (u_born (fty e.2.2.1) (fun w hw => hC.w hw) c1 hKn hkC e1 c2).to (fun j hj => ?_)
    show defaultValue (fty e.2.2.1 j) = vp_V ((List.range r.2.2).map _) j
    unfold vp_V
    rw [List.getD_eq_getElem?_getD, range_map hj]
    show _ = rl Γ (fv (sr S.2 S.1.length (fun _ => 0)) S.1.length (20 + e.2.2.1, r.2.2, List.replicate r.2.2 none) j)
    unfold fv
    show _ = rl Γ (if isRT (fty (20 + e.2.2.1 - 20) j) = true then orf ((List.replicate r.2.2 none).getD j none) else .int (sr S.2 S.1.length (fun _ => 0) S.1.length j))
    rw [Nat.add_sub_cancel_left, sr_eq]
    have hrep : (List.replicate r.2.2 (none : Option Nat)).getD j none = none := rep_none _ _
    rw [hrep]
    exact def_ok g1 hj
theorem hs_anew {x : Nat} {e : Nat × Nat × Nat × Nat} {kn : Int32} {st0 : List Value} (hd : decode q.2.1 pc = .ok (.anewarray x, 3)) (he : anwE q.2.2.2.2 x = some e) (hlen : S.1.length < 900) (hn : ¬ kn < 0) (hN : ix kn ≤ 4000) (h2 : 2 ≤ e.2.2.1) (h5 : e.2.2.1 < 5) :
    aStep Γ q pc L (.int kn :: st0) S d (pc + 3) L (.ref S.1.length :: st0) (alS S (2 + e.2.2.1, ix kn, List.replicate (ix kn) none)) := by
  obtain ⟨r, g1, g2⟩ := anw_ok he
  refine aStep.alloc hlen fun p l ee R s m args below meth c H locs cells slots Q ls hC hH hsz hc hs k => ?_
  have ha : adr Γ S.1.length = H.size := by unfold adr; rw [if_pos (by omega), hsz]
  have k' : ∀ H1 : Heap, H1.size = H.size + 1 → (∀ x : Nat, x < H.size → H1[x]? = H[x]?) → va_at (gD Γ) vwCl (gB Γ + S.1.length, wcell Γ (sr S.2 S.1.length (fun _ => 0)) S.1.length (2 + e.2.2.1, ix kn, List.replicate (ix kn) none)) H1 → W p l ee R s m args below meth c H1 locs (cells + 1) (slots + ix kn) Q (F0 m (pc + 3) ls (.ref (adr Γ S.1.length) :: st0.map (rl Γ))) := k
  rw [ha] at k'
  obtain ⟨r', r1, r2⟩ := tys_Q (Γ := Γ) h2 h5
  have er : r' = r := Option.some.inj (r1.symm.trans g1)
  subst er
  have hAO : va_AO r'.1 s := by
    obtain ⟨a1, a2, a3⟩ := hC.ex.2.2.2.2.2.2.2
    rcases (by omega : e.2.2.1 = 2 ∨ e.2.2.1 = 3 ∨ e.2.2.1 = 4) with z | z | z <;> rw [z] at r1 <;> cases r1
    · exact a1
    · exact a2
    · exact a3
  refine W.anew hC.1 hC.2.1 hC.own (hC.w g2) (va_AO.use hAO) rfl hd rfl hn (by show ix kn * 4 ≤ _; omega) hc hs fun cA kA comp f1 f2 f3 f4 => k' _ (by simp) (fun x hx => ?_) ?_
  · rw [Array.getElem?_push, if_neg (Nat.ne_of_lt hx)]
  · have hra := (hC.ex.1.2 e.2.2.1 _ r2).2
    obtain ⟨kA', comp', -, -, -, f5⟩ := hra
    have e2 : cA = gQ Γ e.2.2.1 := Option.some.inj (f1.symm.trans f5)
    rw [wc_q (by show 4 ≤ 2 + _; omega) (by show 2 + _ < 7; omega)]
    show (H.push _)[gB Γ + S.1.length]? = some (vp_cell (gQ Γ (2 + e.2.2.1 - 2)) (ix kn, .inr (.inr (.inr (.inr (fun i => (((List.replicate (ix kn) (none : Option Nat)).getD i none).map (adr Γ))))))))
    rw [Nat.add_sub_cancel_left, ← hsz, Array.getElem?_push_size, vp_cell_q, ← e2]
    have ef : (fun j => va_rf (((List.replicate (ix kn) (none : Option Nat)).getD j none).map (adr Γ))) = (fun _ => Value.null) := by
      funext j
      have : (List.replicate (ix kn) (none : Option Nat)).getD j none = none := rep_none _ _
      rw [this]
      rfl
    rw [ef]
    exact congrArg some (arrV_new _ _ _)
theorem hs_obj {x h : Nat} {e : Nat × Nat × Nat} {st0 : List Value} (hd : decode q.2.1 pc = .ok (.invokespecial x, 3)) (he : objE q.2.2.2.2 x = some e) (h1 : 1 ≤ d) (h4 : st0.length ≤ 4) : aStep Γ q pc L (.ref h :: st0) S d (pc + 3) L st0 S := by
  refine aStep.read fun p l ee R s m args below meth c H locs cells slots Q ls hC hf hlo hls hH hS hc0 hs0 k => ?_
  have := cat_sum4 (Γ := Γ) h4
  exact W.objInit hC.1 hC.2.1 hC.own (hC.w (obj_ok he)) (hC.w obj_in) (hC.w obj_co) rfl (by rw [hC.2.2.1]; exact hls) rfl hd (by omega) (by show 2 * 0 + _ + 12 ≤ _; omega) k
theorem hs_acp {x a b : Nat} {e : Nat × Nat × Nat} {sp dp kn : Int32} {s0 s1 : aSh} {st0 : List Value} (hd : decode q.2.1 pc = .ok (.invokestatic x, 3)) (he : acpE q.2.2.2.2 x = some e) (ha : S.1[a]? = some s0) (hb : S.1[b]? = some s1)
    (t0 : s0.1 = 0) (t1 : s1.1 = 0) (n1 : ¬ sp < 0) (n2 : ¬ dp < 0) (n3 : ¬ kn < 0) (n4 : ix sp + ix kn ≤ s0.2.1) (n5 : ix dp + ix kn ≤ s1.2.1) (h1 : 1 ≤ d) (h4 : st0.length ≤ 4) :
    aStep Γ q pc L (.int kn :: .int dp :: .ref b :: .int sp :: .ref a :: st0) S d (pc + 3) L st0 (S.1, sr S.2 b (va_cpy (S.2 a) (S.2 b) (ix sp) (ix dp) (ix kn))) := by
  have key : aStep Γ q pc L (.int kn :: .int dp :: .ref b :: .int sp :: .ref a :: st0) S d (pc + 3) L st0 (S.1.set b s1, sr S.2 b (va_cpy (S.2 a) (S.2 b) (ix sp) (ix dp) (ix kn))) := by
    refine aStep.row hb (fun k hk => sr_ne hk) rfl fun p l ee R s m args below meth c H locs cells slots Q ls hC hf hlo hls hH hS k => ?_
    have hw := wld_at (Γ := Γ) ha
    rw [wc_0 t0] at hw
    have hw1 := wld_at (Γ := Γ) hb
    rw [wc_0 t1] at hw1
    have ea : adr Γ a = gB Γ + a := adr_lt hH ha
    have eb : adr Γ b = gB Γ + b := adr_lt hH hb
    have := cat_sum4 (Γ := Γ) h4
    have hw2 : nativeFrameWords "java/lang/System" "arraycopy" 5 ≤ 40 := by decide +kernel
    show W p l ee R s m args below meth c H locs cells slots Q (F0 m pc ls (.int kn :: .int dp :: .ref (adr Γ b) :: .int sp :: .ref (adr Γ a) :: st0.map (rl Γ)))
    rw [ea, eb]
    refine va_copyi (ty := .int) hC.1 hC.2.1 (by rw [hC.2.2.1]; exact hls.symm) hC.own (hC.w (acp_ok he)) (hC.w acp_na) (hC.w acp_st) (hC.w acp_in) hC.ex.1 hH.2.2 wld_D hS a b 0 0 hw hw1 rfl rfl rfl n1 n2 n3 n4 n5 (fun _ _ => rfl) (by omega) (by omega) hd (fun H1 locs1 hP _ hS1 => k H1 locs1 ?_ hS1)
    rw [wc_0 t1, sr_eq]
    exact hP
  rw [set_same hb] at key
  exact key
theorem hs_mat2 {x : Nat} {e : Nat × Nat × Nat × Nat} {a b : Int32} {st0 : List Value} (hd : decode q.2.1 pc = .ok (.invokestatic x, 3)) (he : matE q.2.2.2.2 x = some e) (h1 : 1 ≤ d) (h2 : ¬ e.2.2.1 = 2) (h4 : st0.length ≤ 4) :
    aStep Γ q pc L (.int b :: .int a :: st0) S d (pc + 3) L (.int (if e.2.2.1 = 0 then (if a < b then b else a) else (if b < a then b else a)) :: st0) S := by
  refine aStep.read fun p l ee R s m args below meth c H locs cells slots Q ls hC hf hlo hls hH hS hc0 hs0 k => ?_
  have := cat_sum4 (Γ := Γ) h4
  obtain ⟨g1, g2⟩ := mat_ok he
  by_cases h0 : e.2.2.1 = 0
  · rw [if_pos h0] at k
    rw [h0] at g1
    exact va_mmax hC.1 hC.2.1 (by rw [hC.2.2.1]; exact hls.symm) hC.own (hC.w g1) (hC.w mat_s0) (hC.w mat_in) (hC.w mat_c0) (by omega) (by omega) hc0 hs0 hd k
  · rw [if_neg h0] at k
    have h1' : e.2.2.1 = 1 := by omega
    rw [h1'] at g1
    exact va_mmin hC.1 hC.2.1 (by rw [hC.2.2.1]; exact hls.symm) hC.own (hC.w g1) (hC.w mat_s1) (hC.w mat_in) (hC.w mat_c1) (by omega) (by omega) hc0 hs0 hd k
theorem hs_mat1 {x : Nat} {e : Nat × Nat × Nat × Nat} {a : Int32} {st0 : List Value} (hd : decode q.2.1 pc = .ok (.invokestatic x, 3)) (he : matE q.2.2.2.2 x = some e) (h1 : 1 ≤ d) (h2 : e.2.2.1 = 2) (h4 : st0.length ≤ 4) :
    aStep Γ q pc L (.int a :: st0) S d (pc + 3) L (.int (if 0 ≤ a then a else 0 - a) :: st0) S := by
  refine aStep.read fun p l ee R s m args below meth c H locs cells slots Q ls hC hf hlo hls hH hS hc0 hs0 k => ?_
  have := cat_sum4 (Γ := Γ) h4
  obtain ⟨g1, g2⟩ := mat_ok he
  rw [h2] at g1
  exact va_mabs hC.1 hC.2.1 (by rw [hC.2.2.1]; exact hls.symm) hC.own (hC.w g1) (hC.w mat_s2) (hC.w mat_in) (hC.w mat_c2) (by omega) (by omega) hc0 hs0 hd k
theorem stH_ok (h : stH d mi q pc i n L st S = some o) (hd : decode q.2.1 pc = .ok (i, n)) : aOk Γ d mi q pc L st S o := by
  unfold stH at h
  split at h
  · split at h
    · rename_i hn; subst hn
      split at h
      · split at h
        · rename_i e he
          split at h
          · rename_i sh hsh
            exact aOk.of h (hs_getfield hd he hsh)
          · cases h
        · split at h
          · rename_i e he
            split at h
            · rename_i hh
              exact aOk.of h (hs_getstr hd he hh.1 hh.2)
            · cases h
          · cases h
      · cases h
    · cases h
  · split at h
    · rename_i hn; subst hn
      split at h
      · rename_i e he
        split at h
        · split at h
          · rename_i sh hsh
            split at h
            · rename_i hv
              exact aOk.of h (hs_putI hd he hsh hv)
            · cases h
          · cases h
        · split at h
          · rename_i sh hsh
            split at h
            · rename_i hv
              exact aOk.of h (hs_putR hd he hsh hv.1 hv.2.2.1 hv.2.2.2 hv.2.1) (gr_set (shO_ok hsh).1 rfl)
            · cases h
          · cases h
        · cases h
      · cases h
    · cases h
  · split at h
    · rename_i hn; subst hn
      split at h
      · rename_i e he
        exact aOk.of h (hs_gets hd he)
      · cases h
    · cases h
  · split at h
    · rename_i hn; subst hn
      split at h
      · split at h
        · rename_i v hv
          exact aOk.of h (hs_iald hd hv)
        · cases h
      · cases h
    · cases h
  · split at h
    · rename_i hn; subst hn
      split at h
      · split at h
        · rename_i v hv
          exact aOk.of h (hs_bald hd hv)
        · cases h
      · cases h
    · cases h
  · split at h
    · rename_i hn; subst hn
      split at h
      · split at h
        · rename_i sh hsh
          exact aOk.of h (hs_iast hd hsh)
        · cases h
      · cases h
    · cases h
  · split at h
    · rename_i hn; subst hn
      split at h
      · split at h
        · rename_i sh hsh
          exact aOk.of h (hs_bast hd hsh)
        · cases h
      · cases h
    · cases h
  · split at h
    · rename_i hn; subst hn
      split at h
      · split at h
        · rename_i sh hs
          split at h
          · rename_i hc
            exact aOk.of h (hs_aald hd hs hc.1 hc.2.1 hc.2.2)
          · cases h
        · cases h
      · cases h
    · cases h
  · split at h
    · rename_i hn; subst hn
      split at h
      · split at h
        · rename_i sh sh0 hs hs0
          split at h
          · rename_i hc
            exact aOk.of h (hs_aast hd hs hs0 hc.1 hc.2.1 hc.2.2.1 hc.2.2.2.1 hc.2.2.2.2) (gr_set hs rfl)
          · cases h
        · cases h
      · cases h
    · cases h
  · split at h
    · rename_i hn; subst hn
      split at h
      · split at h
        · rename_i hh
          exact aOk.of h (hs_alenT hd hh.1 hh.2)
        · cases h
      · cases h
    · cases h
  · split at h
    · rename_i hn; subst hn
      split at h
      · rename_i e he
        split at h
        · rename_i hl
          exact aOk.of h (hs_new hd he hl) gr_al
        · cases h
      · cases h
    · cases h
  · split at h
    · rename_i hn; subst hn
      split at h
      · split at h
        · rename_i hc
          exact aOk.of h (hs_newarr hd hc.1 hc.2.1 hc.2.2.1 hc.2.2.2) gr_al
        · cases h
      · cases h
    · cases h
  · split at h
    · rename_i hn; subst hn
      split at h
      · rename_i e he
        split at h
        · split at h
          · rename_i hc
            exact aOk.of h (hs_anew hd he hc.1 hc.2.1 hc.2.2.1 hc.2.2.2.1 hc.2.2.2.2) gr_al
          · cases h
        · cases h
      · cases h
    · cases h
  · split at h
    · rename_i hn; subst hn
      split at h
      · rename_i e he
        split at h
        · split at h
          · rename_i hc
            exact aOk.of h (hs_obj hd he hc.1 hc.2)
          · cases h
        · cases h
      · cases h
    · cases h
  · split at h
    · rename_i hn; subst hn
      split at h
      · rename_i e he
        split at h
        · split at h
          · rename_i s0 s1 hs0 hs1
            split at h
            · rename_i hc
              obtain ⟨a1, a2, a3, a4, a5, a6, a7, a8, a9⟩ := hc
              exact aOk.of h (hs_acp hd he hs0 hs1 a1 a2 a3 a4 a5 a6 a7 a8 a9)
            · cases h
          · cases h
        · cases h
      · cases h
    · cases h
  · cases h
theorem stX_ok (h : stX (some (gL Γ, gx Γ)) d mi pc i n L st S = some o) (hd : decode q.2.1 pc = .ok (i, n)) : aOk Γ d mi q pc L st S o := by
  unfold stX at h
  simp only at h
  split at h
  · split at h
    · rename_i hn; subst hn
      split at h
      · split at h
        · rename_i hc
          exact aOk.of h (hs_sld hd hc.1 hc.2)
        · cases h
      · cases h
    · cases h
  · split at h
    · rename_i hn; subst hn
      split at h
      · split at h
        · rename_i hc
          exact aOk.of h (hs_alen hd hc)
        · cases h
      · cases h
    · cases h
  · cases h
theorem stM_ok (h : stM d mi q pc i n L st S = some o) (hd : decode q.2.1 pc = .ok (i, n)) : aOk Γ d mi q pc L st S o := by
  unfold stM at h
  split at h
  · split at h
    · rename_i hn
      obtain ⟨rfl, h1⟩ := hn
      split at h
      · rename_i e he
        split at h
        · rename_i h2
          split at h
          · split at h
            · rename_i h4
              exact aOk.of h (hs_mat1 hd he h1 h2 h4)
            · cases h
          · cases h
        · rename_i h2
          split at h
          · split at h
            · rename_i h4
              exact aOk.of h (hs_mat2 hd he h1 h2 h4)
            · cases h
          · cases h
      · cases h
    · cases h
  · cases h
end Heap2
