/-- the receiver of a call -/
theorem rcv_ok {Γ : aG} {S : aSt} {hr own : Nat} {s : State} {H : Heap} {locs : List Loc} (hh : rcv S hr own = true) (hH : RH Γ S H) (hE : EX Γ s) (hS : va_S (gA Γ) s.heap H locs) : ∃ cellB : Cell, H[adr Γ hr]? = some cellB ∧ cellB.vm.isStatics = false ∧ s.vm.findClass (ownN own) = some cellB.cls := by
  unfold rcv at hh
  split at hh
  · rename_i sh1 hs1
    simp only [Bool.and_eq_true, decide_eq_true_eq] at hh
    obtain ⟨⟨b1, b2⟩, b3⟩ := hh
    have hw := wld_at (Γ := Γ) hs1
    rw [wc_o b1] at hw
    have hlt : sh1.1 - 20 < vwCl.length := by show _ < 8; exact b3
    have hc := List.getElem?_eq_getElem hlt
    obtain ⟨cellB, c1, c2, c3⟩ := va_recv hE.1 hH.2.2 hc hw
    rw [adr_lt hH hs1]
    refine ⟨cellB, c1, c2, ?_⟩
    rw [← b2, List.getD_eq_getElem?_getD, hc]
    exact c3
  · simp only [Bool.and_eq_true, decide_eq_true_eq] at hh
    obtain ⟨⟨b1, b2⟩, b3⟩ := hh
    obtain ⟨cellB, c1, c2, c3⟩ := vk_recv hE.2.2.2.1 (i := hr - 1010) (by omega) hS
    have ha : adr Γ hr = gX Γ (1010 + (hr - 1010)) := by rw [adr_hi (by omega), show 1010 + (hr - 1010) = hr by omega]
    rw [ha, b3]
    exact ⟨cellB, c1, c2, c3⟩
theorem cal_ok {d mi pc jj mx : Nat} {L : aLo} {S : aSt} {as rest : List Value} {o : aOut} (h : cal d mi pc L S jj mx as rest = some o) : ∃ d1, d = d1 + 1 ∧ (entA as).length ≤ mx ∧ rest.length ≤ 4 ∧ o = .inr (.inr ((d1, jj, 0, ent mx as, [], S), fun r => some (d1 + 1, mi, pc + 3, L, r.1.toList ++ rest, r.2))) := by
  unfold cal at h
  split at h
  · cases h
  · split at h
    · rename_i d1 hc
      exact ⟨d1, rfl, hc.1, hc.2, (Option.some.inj h).symm⟩
    · cases h
/-- a call, and what follows it -/
def aCall (Γ : aG) (q : aMt) (pc : Nat) (L : aLo) (st : List Value) (S : aSt) (d1 jj : Nat) (y : aMt) (as rest : List Value) : Prop :=
  plainName y.1.cls = true ∧ mtb[jj]? = some y ∧
  ∀ (r : aRs) (p : Program) (l : Launch) (e : Env) (R : Room) (s : State) (m : MethodId) (args : Array Value) (below : List Frame) (meth : Method) (c : Code) (H : Heap) (locs : List Loc) (cells slots mc ms : Nat) (Q : State → Prop) (ls : Array Slot),
    Met l y.1 (wsM y) (rmM d1 mc ms) (PcM Γ as S) (QcM Γ r) mc ms (gA Γ) → aCtx Γ p s m args meth c q → d1 + 1 ≤ R.frames → 64 * (d1 + 1) ≤ R.locals → ls.size = q.2.2.1 → RH Γ S H → va_S (gA Γ) s.heap H locs → cells + mc ≤ R.cells → slots + ms ≤ R.slots →
    (∀ (H1 : Heap) (locs1 : List Loc), RH Γ r.2 H1 → va_S (gA Γ) s.heap H1 locs1 → W p l e R s m args below meth c H1 locs1 (cells + mc) (slots + ms) Q (F0 m (pc + 3) ls ((r.1.map (rl Γ)).toList ++ rest.map (rl Γ)))) →
    W p l e R s m args below meth c H locs cells slots Q (F0 m pc ls (st.map (rl Γ)))
theorem stC_ok {Γ : aG} {d mi : Nat} {q : aMt} {pc n : Nat} {i : Instr} {L : aLo} {st : List Value} {S : aSt} {o : aOut} (h : stC d mi q pc i n L st S = some o) (hd : decode q.2.1 pc = .ok (i, n)) :
    ∃ (d1 jj : Nat) (y : aMt) (as rest : List Value), d = d1 + 1 ∧ (entA as).length ≤ y.2.2.1 ∧ o = .inr (.inr ((d1, jj, 0, ent y.2.2.1 as, [], S), fun r => some (d1 + 1, mi, pc + 3, L, r.1.toList ++ rest, r.2))) ∧ aCall Γ q pc L st S d1 jj y as rest := by
  unfold stC at h
  split at h
  · split at h
    · rename_i hn; subst hn
      split at h
      · rename_i e1 he1
        split at h
        · rename_i hkd
          split at h
          · rename_i y1 as1 rest1 hy1 hsp
            obtain ⟨d1, rfl, c1, c2, c3⟩ := cal_ok h
            refine ⟨d1, e1.2.2.1, y1, as1, rest1, rfl, c1, c3, ?_⟩
            obtain ⟨⟨k1, k2, k3, k4⟩, k5, k6, k7, k8, k9, k10, k11, k12, k13⟩ := mth_ok he1 hy1
            refine ⟨k11, hy1, fun r p l ee R s m args below meth c H locs cells slots mc ms Q ls hM hC hf hlo hls hH hS hc hs kk => ?_⟩
            obtain ⟨s1, s2⟩ := spl_ok (Γ := Γ) hsp
            have hG := goodM (cod_ok k4 hy1)
            have hR : (rmM d1 mc ms).frames + 1 ≤ R.frames ∧ 8 + (y1.2.2.1 + 11) + (rmM d1 mc ms).locals ≤ R.locals := ⟨hf, by show 8 + (y1.2.2.1 + 11) + 64 * d1 ≤ _; omega⟩
            have hPre : PreS s H (PcM Γ as1 S) (as1.map (rl Γ)) := ⟨blindM, fun U hU hW => ⟨rfl, by rw [hU]; exact hH, EX.moved hW hC.base (fun a g1 g2 => by rw [hU]; exact hS.2.1 a g1 g2) hC.ex⟩⟩
            have hsum := cat_sum4 (Γ := Γ) c2
            refine callW (mc := mc) (ms := ms) (rest := rest1.map (rl Γ)) (a := (as1.map (rl Γ)).toArray) ?_ hS kk
            rcases hkd with z0 | z3
            · exact va_runS (As := as1.map (rl Γ)) (rest := rest1.map (rl Γ)) (n := e1.2.2.2.2.1) ⟨hC.1, hC.2.1, hC.2.2.1, hC.own, fun w hw => hC.w hw⟩ hM ⟨callB_of _ (fun w hw => hC.w hw) hG rfl rfl rfl (hC.w k9) (hC.w (k5 (by omega) (by omega))) k10 hR, hC.w (k6 (Or.inl z0))⟩ hPre rfl (by simp [s1]) hls s2 (by show 2 * 0 + _ ≤ 8; omega) hd ⟨hc, hs⟩
            · have hnw := hC.ex.2.1 e1 k1 (Or.inl z3) y1 hy1
              rw [k2, k3] at hnw
              exact va_runSN (As := as1.map (rl Γ)) (rest := rest1.map (rl Γ)) (n := e1.2.2.2.2.1) (host := RX7) ⟨hC.1, hC.2.1, hC.2.2.1, hC.own, fun w hw => hC.w hw⟩ hM ⟨va_cnB _ (fun w hw => hC.w hw) hG rfl rfl rfl hnw (hC.w k9) k10 hR, hC.w (k6 (Or.inr z3)), trivial⟩ hPre rfl (by simp [s1]) hls s2 (by show 2 * 0 + _ ≤ 8; omega) hd ⟨hc, hs⟩
          · cases h
        · cases h
      · cases h
    · cases h
  · split at h
    · rename_i hn; subst hn
      split at h
      · rename_i e1 he1
        split at h
        · rename_i hkd
          split at h
          · rename_i y1 as1 hr1 rest1 hy1 hsp
            split at h
            · rename_i hrc
              obtain ⟨d1, rfl, c1, c2, c3⟩ := cal_ok h
              refine ⟨d1, e1.2.2.1, y1, .ref hr1 :: as1, rest1, rfl, c1, c3, ?_⟩
              obtain ⟨⟨k1, k2, k3, k4⟩, k5, k6, k7, k8, k9, k10, k11, k12, k13⟩ := mth_ok he1 hy1
              refine ⟨k11, hy1, fun r p l ee R s m args below meth c H locs cells slots mc ms Q ls hM hC hf hlo hls hH hS hc hs kk => ?_⟩
              obtain ⟨s1, s2⟩ := spl_ok (Γ := Γ) hsp
              have hG := goodM (cod_ok k4 hy1)
              have hR : (rmM d1 mc ms).frames + 1 ≤ R.frames ∧ 8 + (y1.2.2.1 + 11) + (rmM d1 mc ms).locals ≤ R.locals := ⟨hf, by show 8 + (y1.2.2.1 + 11) + 64 * d1 ≤ _; omega⟩
              have hown := mtb_own hy1
              have hrv := rcv_ok hrc hH hC.ex hS
              rw [← hown] at hrv
              have hPre : PreV s H y1.1.cls (adr Γ hr1) (PcM Γ (.ref hr1 :: as1) S) (as1.map (rl Γ)) := ⟨blindM, hrv, fun U hU hW => ⟨rfl, by rw [hU]; exact hH, EX.moved hW hC.base (fun a g1 g2 => by rw [hU]; exact hS.2.1 a g1 g2) hC.ex⟩⟩
              have hsum := cat_sum4 (Γ := Γ) c2
              refine callW (mc := mc) (ms := ms) (rest := rest1.map (rl Γ)) (a := (Value.ref (adr Γ hr1) :: as1.map (rl Γ)).toArray) ?_ hS kk
              exact va_runV (As := as1.map (rl Γ)) (rest := rest1.map (rl Γ)) (n := e1.2.2.2.2.1) (C := y1.1.cls) ⟨hC.1, hC.2.1, hC.2.2.1, hC.own, fun w hw => hC.w hw⟩ hM ⟨callB_of _ (fun w hw => hC.w hw) hG rfl rfl rfl (hC.w k9) (hC.w (k5 (by omega) (by omega))) k10 hR, hC.w (k7 (by omega)), hC.w (k8 hkd)⟩ hPre rfl (by simp [s1]) hls s2 (by show 2 * 0 + _ ≤ 8; omega) hd ⟨hc, hs⟩
            · cases h
          · cases h
        · cases h
      · cases h
    · cases h
  · split at h
    · rename_i hn; subst hn
      split at h
      · rename_i e1 he1
        split at h
        · rename_i hkd
          split at h
          · rename_i y1 as1 hr1 rest1 hy1 hsp
            obtain ⟨d1, rfl, c1, c2, c3⟩ := cal_ok h
            refine ⟨d1, e1.2.2.1, y1, .ref hr1 :: as1, rest1, rfl, c1, c3, ?_⟩
            obtain ⟨⟨k1, k2, k3, k4⟩, k5, k6, k7, k8, k9, k10, k11, k12, k13⟩ := mth_ok he1 hy1
            refine ⟨k11, hy1, fun r p l ee R s m args below meth c H locs cells slots mc ms Q ls hM hC hf hlo hls hH hS hc hs kk => ?_⟩
            obtain ⟨s1, s2⟩ := spl_ok (Γ := Γ) hsp
            have hG := goodM (cod_ok k4 hy1)
            have hR : (rmM d1 mc ms).frames + 1 ≤ R.frames ∧ 8 + (y1.2.2.1 + 11) + (rmM d1 mc ms).locals ≤ R.locals := ⟨hf, by show 8 + (y1.2.2.1 + 11) + 64 * d1 ≤ _; omega⟩
            have hPre : PreS s H (PcM Γ (.ref hr1 :: as1) S) (.ref (adr Γ hr1) :: as1.map (rl Γ)) := ⟨blindM, fun U hU hW => ⟨rfl, by rw [hU]; exact hH, EX.moved hW hC.base (fun a g1 g2 => by rw [hU]; exact hS.2.1 a g1 g2) hC.ex⟩⟩
            have hsum := cat_sum4 (Γ := Γ) c2
            obtain ⟨i1, i2⟩ := k13 hkd
            have hw : wsM y1 = Cond.code y1.1 y1.2.1 y1.2.2.1 none :: gtb := by unfold wsM; rw [i2]
            refine callW (mc := mc) (ms := ms) (rest := rest1.map (rl Γ)) (a := (Value.ref (adr Γ hr1) :: as1.map (rl Γ)).toArray) ?_ hS kk
            rcases hkd with z2 | z4
            · exact va_runI (As := as1.map (rl Γ)) (rest := rest1.map (rl Γ)) (n := e1.2.2.2.2.1) ⟨hC.1, hC.2.1, hC.2.2.1, hC.own, fun w hw => hC.w hw⟩ hM ⟨callB_of _ (fun w hw => hC.w hw) hG hw rfl rfl (hC.w k9) (hC.w (k5 (by omega) (by omega))) k10 hR, i1, hC.w (k7 (by omega))⟩ hPre rfl (by simp [s1]) hls s2 (by show 2 * 0 + _ ≤ 8; omega) hd ⟨hc, hs⟩
            · have hnw := hC.ex.2.1 e1 k1 (Or.inr z4) y1 hy1
              rw [k2, k3] at hnw
              exact va_runIN (As := as1.map (rl Γ)) (rest := rest1.map (rl Γ)) (n := e1.2.2.2.2.1) (host := RX7) ⟨hC.1, hC.2.1, hC.2.2.1, hC.own, fun w hw => hC.w hw⟩ hM ⟨va_cnB _ (fun w hw => hC.w hw) hG hw rfl rfl hnw (hC.w k9) k10 hR, i1, hC.w (k7 (by omega))⟩ hPre rfl (by simp [s1]) hls s2 (by show 2 * 0 + _ ≤ 8; omega) hd ⟨hc, hs⟩
          · cases h
        · cases h
      · cases h
    · cases h
  · cases h
theorem oe_or {a b : Option aOut} {o : aOut} (h : oe a b = some o) : a = some o ∨ b = some o := by
  unfold oe at h
  split at h
  · exact Or.inl h
  · exact Or.inr h
theorem stp_ok {Γ : aG} {d mi pc : Nat} {L : aLo} {st : List Value} {S : aSt} {o : aOut} (h : stp (gE Γ) (d, mi, pc, L, st, S) = some o) : ∃ q, mtb[mi]? = some q ∧
    (aOk Γ d mi q pc L st S o ∨ (∃ (d1 jj : Nat) (y : aMt) (as rest : List Value), d = d1 + 1 ∧ (entA as).length ≤ y.2.2.1 ∧ o = .inr (.inr ((d1, jj, 0, ent y.2.2.1 as, [], S), fun r => some (d1 + 1, mi, pc + 3, L, r.1.toList ++ rest, r.2))) ∧ aCall Γ q pc L st S d1 jj y as rest) ∨
      ∃ rv, o = .inl (rv, S) ∧ retAt Γ q pc (st.map (rl Γ)) rv) := by
  cases hq : mtb[mi]? with
  | none => simp only [stp, hq] at h; exact absurd h (by simp)
  | some q =>
    refine ⟨q, rfl, ?_⟩
    cases hd : decode q.2.1 pc with
    | error ee => simp only [stp, hq, hd] at h; exact absurd h (by simp)
    | ok x =>
      obtain ⟨i, n⟩ := x
      simp only [stp, hq, hd] at h
      rcases oe_or h with h | h
      rotate_left
      · exact Or.inl (stX_ok h hd)
      unfold stA at h
      rcases oe_or h with h | h
      · exact Or.inl (stK_ok h hd)
      rcases oe_or h with h | h
      · exact Or.inl (stL_ok h hd)
      rcases oe_or h with h | h
      · exact Or.inl (stS_ok h hd)
      rcases oe_or h with h | h
      · exact Or.inl (stI_ok h hd)
      rcases oe_or h with h | h
      · exact Or.inl (stU_ok h hd)
      rcases oe_or h with h | h
      · exact Or.inl (stJ_ok h hd)
      rcases oe_or h with h | h
      · exact Or.inl (stB_ok h hd)
      rcases oe_or h with h | h
      · exact Or.inl (stH_ok h hd)
      rcases oe_or h with h | h
      · exact Or.inl (stM_ok h hd)
      rcases oe_or h with h | h
      · exact Or.inr (Or.inl (stC_ok h hd))
      · exact Or.inr (Or.inr (stR_ok h hd))
/-- SOUNDNESS -/
theorem snd_all (Γ : aG) : ∀ n, SND Γ n := by
  intro n
  induction n with
  | zero => intro d mi pc L st S r h; cases h
  | succ n ih =>
    intro d mi pc L st S r h
    rw [rn] at h
    cases hs : stp (gE Γ) (d, mi, pc, L, st, S) with
    | none => rw [hs] at h; cases h
    | some o =>
      rw [hs] at h
      obtain ⟨q, hq, hk⟩ := stp_ok (Γ := Γ) hs
      rcases hk with ⟨pc1, L1, st1, S1, rfl, hstep, hg⟩ | ⟨d1, jj, y, as, rest, rfl, hent, rfl, hcall⟩ | ⟨rv, rfl, hret⟩
      · obtain ⟨⟨g1, g2⟩, hw⟩ := ih d mi pc1 L1 st1 S1 r h
        refine ⟨⟨Nat.le_trans hg.1 g1, Nat.le_trans hg.2 g2⟩, fun q' hq' p l e R s m args below meth c H locs cells slots fc fs Q ls hC hf hlo hl hH hS hz h1 h2 h3 h4 hfin => ?_⟩
        have eq1 : q' = q := Option.some.inj (hq'.symm.trans hq)
        subst eq1
        refine hstep p l e R s m args below meth c H locs cells slots Q ls hC hf hlo hl hH hS hz (by omega) (by omega) (fun ls' H' locs' cells' slots' hl' hH' hS' z1 z2 => ?_)
        exact hw q' hq p l e R s m args below meth c H' locs' cells' slots' fc fs Q ls' hC hf hlo hl' hH' hS' (by omega) (by omega) (by omega) h3 h4 hfin
      · have h' : (rn (gE Γ) n (d1, jj, 0, ent y.2.2.1 as, [], S)).bind (fun r1 => (some ((d1 + 1, mi, pc + 3, L, r1.1.toList ++ rest, r1.2) : aCf)).bind (rn (gE Γ) n)) = some r := h
        simp only [Option.bind_eq_some_iff, Option.some.injEq] at h'
        obtain ⟨r1, e1, z, rfl, e2⟩ := h'
        obtain ⟨⟨g1, g2⟩, -⟩ := ih _ _ _ _ _ _ _ e1
        obtain ⟨⟨g3, g4⟩, hw⟩ := ih _ _ _ _ _ _ _ e2
        refine ⟨⟨Nat.le_trans g1 g3, Nat.le_trans g2 g4⟩, fun q' hq' p l e R s m args below meth c H locs cells slots fc fs Q ls hC hf hlo hl hH hS hz h1 h2 h3 h4 hfin => ?_⟩
        have eq1 : q' = q := Option.some.inj (hq'.symm.trans hq)
        subst eq1
        obtain ⟨hpl, hy, hcl⟩ := hcall
        refine hcl r1 p l e R s m args below meth c H locs cells slots (r1.2.1.length - S.1.length) (slz r1.2.1 - slz S.1) Q ls (met_of l ih e1 hy hent hpl) hC hf hlo hl.1 hH hS (by omega) (by omega) (fun H1 locs1 hH1 hS1 => ?_)
        have hst : (r1.1.map (rl Γ)).toList ++ rest.map (rl Γ) = (r1.1.toList ++ rest).map (rl Γ) := by
          cases r1.1 <;> simp
        rw [hst]
        exact hw q' hq p l e R s m args below meth c H1 locs1 _ _ fc fs Q ls hC hf hlo hl hH1 hS1 (by omega) (by omega) (by omega) h3 h4 hfin
      · have h' : (rv, S) = r := Option.some.inj h
        subst h'
        refine ⟨⟨Nat.le_refl _, Nat.le_refl _⟩, fun q' hq' p l e R s m args below meth c H locs cells slots fc fs Q ls hC hf hlo hl hH hS hz h1 h2 h3 h4 hfin => ?_⟩
        have eq1 : q' = q := Option.some.inj (hq'.symm.trans hq)
        subst eq1
        have e3 : fc = cells := by have : cells + S.1.length = fc + S.1.length := h1; omega
        have e4 : fs = slots := by have : slots + slz S.1 = fs + slz S.1 := h2; omega
        rw [← e3, ← e4]
        exact hfin pc ls (st.map (rl Γ)) H locs hret hH hS
