/-! THE CLAIM OUT OF ONE WALK OF THE LAW'S BODY. Your part is whole_start (and what it stands on); all else here is the same for every law, but numbers. -/
def R_law : String := "GlanceGrowsLaw"
def lw_P (b : Addr) (xs : List Int32) (args : Array Value) (s : State) : Prop := args = #[.ref b] ∧ s.IntsAt b xs ∧ xs.length ≤ 3072 ∧ (Jvm.Cond.and given_1 narrow_1).before args s = true
def lw_Q (_ : Array Value) (s : State) (o : Outcome) (t : State) : Prop := o = .returned (some (.int 1)) ∧ Framed s o t [] 600000 7302250
def lw_Z (below : List Frame) (a : Array Value) (s : State) : State → Prop := fun t => ∃ o, t.status = .running ∧ Ended t below o ∧ lw_Q a s o t
/-- the law's own end, with 1 on the stack, nothing written that was there before, its room as the claim has it -/
theorem lw_ret {p : Program} {l : Launch} {e : Env} {s : State} {m : MethodId} {below : List Frame} {meth : Method} {c : Code} {b : Nat} (hx : p.tables.exec = Jvm.exec) (hb : c.code = code) (hr : meth.sig.returnType = ret) (hlocks : meth.locks = false) {pc : Nat} {H : Heap} {ls : Array Slot} (hdg : decode code pc = .ok (.ireturn, 1)) : W p l e room_1 s m #[Value.ref b] below meth c H [] 600000 7302250 (lw_Z below #[Value.ref b] s) (F0 m pc ls [.int 1]) := by
  intro T hT X
  obtain ⟨fs, hret, hrun, hended, hW, hframe⟩ := X.leave (v := some (.int 1)) (hlocks := hlocks) (fun h => by rw [hr] at h; cases h)
  have hmeth' : T.vm.method? m = some meth := X.method'
  refine ⟨T.setFrames fs, ?_, .returned (some (.int 1)), hrun, hended, rfl, ⟨_, rfl⟩, hW, hframe⟩
  jvm_step X.here [X.here.top, hx, hb, hdg, hmeth', hr, ret, narrow_b1]
  (try refine ⟨rfl, ?_⟩); (try refine ⟨rfl, ?_⟩)
  first | (intro acts; rw [hret _ acts rfl rfl rfl]) | rw [hret _ _ rfl rfl rfl]
  exact Steps.refl _
/-- what holds at the law's entry: the machine, the code, the tables' words (any of lw_tbl by 'hts w (by decide +kernel)'), the script of L ints xs at the cell b, what the Statement gives of the start (any of its parts by flat_of_before) -/
def lw_At (p : Program) (s : State) (m : MethodId) (meth : Method) (c : Code) (b L : Nat) (xs : Nat → Int32) : Prop :=
  p.tables.exec = Jvm.exec ∧ c.code = code ∧ meth.sig.returnType = ret ∧ c.maxLocals = 4 ∧ s.vm.findClass R_law = some m.cls ∧ (∀ w ∈ lw_tbl, w.before #[Value.ref b] s = true) ∧ va_X b L xs s s.heap ∧ b < s.heap.size ∧ meth.locks = false ∧ (Jvm.Cond.and given_1 narrow_1).before #[Value.ref b] s = true ∧ meth.name = "law"
section Run
variable {p : Program} {l : Launch} {e : Env} {s : State} {m : MethodId} {below : List Frame} {meth : Method} {c : Code} {Γ : aG} {b L : Nat} {xs : Nat → Int32}
theorem slz_shp : slz shp = 12305 := by decide +kernel
theorem gtb_lw {w : Cond} (h : w ∈ gtb) : w ∈ lw_tbl := (List.mem_filter.mp h).1
theorem whole_run (hL : L ≤ 3072) (C0 : lw_At p s m meth c b L xs) (hE : EX Γ s) (hB : gB Γ = s.heap.size) (hgL : gL Γ = L) (hgx : gx Γ = xs) (hgb : gb Γ = b) : W p l e room_1 s m #[Value.ref b] below meth c s.heap [] 0 0 (lw_Z below #[Value.ref b] s) (entryFrame m ([Value.ref b] : List Value).toArray 4) := by
  obtain ⟨hx, hb, hr, hml, hown, hts, hX, hbl, hlocks, hgv, hnm⟩ := id C0
  obtain ⟨σ2, hR⟩ := law_ok (len := L) (xs := xs) (by omega)
  obtain ⟨n, hn⟩ := RN_iff.mp hR
  have hn' : rn (gE Γ) n st0 = some (some (.int (bI true)), (shp, σ2)) := by unfold gE; rw [hgL, hgx]; exact hn
  have h1000 : gX Γ 1000 = b := by rw [hE.2.2.2.2.2.2.1.2.1]; exact hgb
  have hl := lv_entry ([.ref b]) (n := 4) (Nat.le_of_ble_eq_true rfl)
  rw [lg_entry_eq]
  generalize (lg_sl ([.ref b]) ++ List.replicate (4 - (lg_sl ([.ref b])).length) Slot.unset).toArray = ls at hl ⊢
  have hC : aCtx Γ p s m #[Value.ref b] meth c (yL_law, cL_law, 4, some .boolean, 14) := ⟨hx, hb, hml, hown, hnm, fun w hw => hts w (gtb_lw hw), hE, Nat.le_of_eq hB, rfl⟩
  have hlr : lrel Γ 4 [some (.ref 1000), none, none, none] ls := by
    refine ⟨hl.1, hl.2.1, rfl, fun i v hi => ?_⟩
    match i, hi with
    | 0, hi =>
      cases hi
      have e1 : rl Γ (.ref 1000) = .ref b := by
        show Value.ref (adr Γ 1000) = _
        rw [adr_hi (by omega), h1000]
      rw [e1]
      exact hl.2.2 (0, .ref b) List.mem_cons_self
    | 1, hi => cases hi
    | 2, hi => cases hi
    | 3, hi => cases hi
    | i + 4, hi => cases hi
  have hH : RH Γ ([], fun _ _ => 0) s.heap := ⟨hB.symm, Nat.zero_le _, fun k q h => by simp [wld] at h⟩
  have hbt : bI true = (1 : Int32) := by decide +kernel
  refine (snd_all Γ n 200 223 0 [some (.ref 1000), none, none, none] [] ([], fun _ _ => 0) _ hn').2 _ mt_223 p l e room_1 s m #[Value.ref b] below meth c s.heap [] 0 0 113 12305 (lw_Z below #[Value.ref b] s) ls hC (Nat.le_of_ble_eq_true rfl) (Nat.le_of_ble_eq_true rfl) hlr hH va_S.rf (by rw [hB]; rfl) rfl (by show 0 + slz shp = 12305 + slz []; rw [slz_shp]; rfl) (Nat.le_of_ble_eq_true rfl) (Nat.le_of_ble_eq_true rfl) ?_
  intro pc' ls' st' H' locs' hret hH' hS'
  rcases hret with ⟨x, ty, h1, rfl, h3, h4, h5⟩ | ⟨k, ty, h1, _⟩ | ⟨h1, _⟩
  · cases h1
    refine va_forget (fun q hq => by have := hS'.2.2 q hq; unfold gA at this; omega) ?_
    refine W.widen (k := 600000) (n := 7302250) (by omega) (by omega) ?_
    rw [hbt]
    exact lw_ret hx hb hr hlocks h3
  · cases h1
  · cases h1
end Run
