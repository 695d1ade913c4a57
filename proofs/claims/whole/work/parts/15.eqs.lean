/-! EQUATIONS OF Rn, instruction by instruction -/
theorem stp_A {E : aE} {d mi pc : Nat} {q : aMt} {ls : aLo} {st : List Value} {S : aSt} {i : Instr} {n : Nat} {o : aOut} (hm : mtb[mi]? = some q) (hd : decode q.2.1 pc = .ok (i, n)) (h : stA d mi q pc i n ls st S = some o) : stp E (d, mi, pc, ls, st, S) = some o := by
  simp only [stp, hm, hd, h, oe]
theorem R_go {E : aE} {d mi pc : Nat} {ls : aLo} {st : List Value} {S : aSt} {d' mi' pc' : Nat} {ls' : aLo} {st' : List Value} {S' : aSt} (h : stp E (d, mi, pc, ls, st, S) = some (.inr (.inl (d', mi', pc', ls', st', S')))) : Rn E d mi pc ls st S = Rn E d' mi' pc' ls' st' S' := by
  unfold Rn
  rw [RN_eq, h]
  rfl
theorem R_no {E : aE} {d mi pc : Nat} {ls : aLo} {st : List Value} {S : aSt} (h : stp E (d, mi, pc, ls, st, S) = none) : Rn E d mi pc ls st S = none := by
  unfold Rn
  rw [RN_eq, h]
  rfl
theorem R_end {E : aE} {d mi pc : Nat} {ls : aLo} {st : List Value} {S : aSt} {rr : aRs} (h : stp E (d, mi, pc, ls, st, S) = some (.inl rr)) : Rn E d mi pc ls st S = some rr := by
  unfold Rn
  rw [RN_eq, h]
  rfl
/-- a field is read -/
def gfK (S : aSt) (h ci k : Nat) (K : Value → Option aRs) : Option aRs := match shO S h ci k with
  | some sh => K (fv S.2 h sh k)
  | none => none
/-- a field is written -/
def pfK (S : aSt) (h ci k : Nat) (vv : Int32) (K : aSt → Option aRs) : Option aRs := match shO S h ci k with
  | some _ => K (S.1, su S.2 h k vv)
  | none => none
def ald (S : aSt) (h : Nat) (j : Int32) (K : Value → Option aRs) : Option aRs := match rdI S h j with
  | some vv => K (.int vv)
  | none => none
def bld (S : aSt) (h : Nat) (j : Int32) (K : Value → Option aRs) : Option aRs := match rdB S h j with
  | some vv => K (.int vv)
  | none => none
def qld (S : aSt) (h : Nat) (j : Int32) (K : Value → Option aRs) : Option aRs := match S.1[h]? with
  | some sh => if 4 ≤ sh.1 ∧ sh.1 < 7 ∧ inb j sh.2.1 = true then K (orf (sh.2.2.getD (ix j) none)) else none
  | none => none
def ast (S : aSt) (h : Nat) (j vv : Int32) (K : aSt → Option aRs) : Option aRs := match shA S h 0 j with
  | some _ => K (S.1, su S.2 h (ix j) vv)
  | none => none
def bst (S : aSt) (h : Nat) (j vv : Int32) (K : aSt → Option aRs) : Option aRs := match shA S h 1 j with
  | some _ => K (S.1, su S.2 h (ix j) vv.toInt8.toInt32)
  | none => none
def cpK (S : aSt) (a : Nat) (sp : Int32) (b : Nat) (dp kn : Int32) (K : aSt → Option aRs) : Option aRs := match S.1[a]?, S.1[b]? with
  | some s0, some s1 => if s0.1 = 0 ∧ s1.1 = 0 ∧ ¬ sp < 0 ∧ ¬ dp < 0 ∧ ¬ kn < 0 ∧ ix sp + ix kn ≤ s0.2.1 ∧ ix dp + ix kn ≤ s1.2.1 then K (S.1, sr S.2 b (va_cpy (S.2 a) (S.2 b) (ix sp) (ix dp) (ix kn))) else none
  | _, _ => none
/-- a call, and what follows -/
def clK (x : Option aRs) (K : Option Value → aSt → Option aRs) : Option aRs := match x with
  | some rr => K rr.1 rr.2
  | none => none
section Eqs
variable {E : aE} {d mi pc : Nat} {q : aMt} {ls : aLo} {st : List Value} {S : aSt}
theorem stI_no {i : Instr} {n : Nat} (h : ∀ aa bb, bin i aa bb = none) : stI d mi pc i n ls st S = none := by
  unfold stI
  split
  · split
    · rw [h]
    · rfl
  · rfl
theorem stU_no {i : Instr} {n : Nat} (h : ∀ aa, una i aa = none) : stU d mi pc i n ls st S = none := by
  unfold stU
  split
  · split
    · rw [h]
    · rfl
  · rfl
theorem R_iconst (hm : mtb[mi]? = some q) {k : Int} (hd : decode q.2.1 pc = .ok (.iconst k, 1)) : Rn E d mi pc ls (st) S = Rn E d mi (pc + 1) ls (.int (Int32.ofInt k) :: st) S := R_go (stp_A hm hd (by rfl))
theorem R_bipush (hm : mtb[mi]? = some q) {k : Int} (hd : decode q.2.1 pc = .ok (.bipush k, 2)) : Rn E d mi pc ls (st) S = Rn E d mi (pc + 2) ls (.int (Int8.ofInt k).toInt32 :: st) S := R_go (stp_A hm hd (by rfl))
theorem R_sipush (hm : mtb[mi]? = some q) {k : Int} (hd : decode q.2.1 pc = .ok (.sipush k, 3)) : Rn E d mi pc ls (st) S = Rn E d mi (pc + 3) ls (.int (Int16.ofInt k).toInt32 :: st) S := R_go (stp_A hm hd (by rfl))
theorem R_lconst (hm : mtb[mi]? = some q) {k : Fin 2} (hd : decode q.2.1 pc = .ok (.lconst k, 1)) : Rn E d mi pc ls (st) S = Rn E d mi (pc + 1) ls (.long (Int64.ofNat (k : Nat)) :: st) S := R_go (stp_A hm hd (by rfl))
theorem R_ldc (hm : mtb[mi]? = some q) {k : Nat} {e : Nat × Nat × Int32 × Nat} (hd : decode q.2.1 pc = .ok (.ldc k, 2)) (he : cstE q.2.2.2.2 k = some e) : Rn E d mi pc ls (st) S = Rn E d mi (pc + 2) ls (.int e.2.2.1 :: st) S := R_go (stp_A hm hd (by simp only [stA, stK, he, if_true]; rfl))
theorem R_ldcS (hm : mtb[mi]? = some q) {k : Nat} {e : Nat × Nat × Nat × Nat} (hd : decode q.2.1 pc = .ok (.ldc k, 2)) (hn : cstE q.2.2.2.2 k = none) (he : strE q.2.2.2.2 k = some e) : Rn E d mi pc ls (st) S = Rn E d mi (pc + 2) ls (.ref (1010 + e.2.2.1) :: st) S := R_go (stp_A hm hd (by simp only [stA, stK, hn, he, if_true]; rfl))
theorem R_ldc_w (hm : mtb[mi]? = some q) {k : Nat} {e : Nat × Nat × Int32 × Nat} (hd : decode q.2.1 pc = .ok (.ldc_w k, 3)) (he : cstE q.2.2.2.2 k = some e) : Rn E d mi pc ls (st) S = Rn E d mi (pc + 3) ls (.int e.2.2.1 :: st) S := R_go (stp_A hm hd (by simp only [stA, stK, he, if_true]; rfl))
theorem R_ldc2 (hm : mtb[mi]? = some q) {k : Nat} {e : Nat × Nat × Int64 × Nat} (hd : decode q.2.1 pc = .ok (.ldc2_w k, 3)) (he : lngE q.2.2.2.2 k = some e) : Rn E d mi pc ls (st) S = Rn E d mi (pc + 3) ls (.long e.2.2.1 :: st) S := R_go (stp_A hm hd (by simp only [stA, stK, he, if_true]; rfl))
theorem R_iload_n (hm : mtb[mi]? = some q) {k : Fin 4} {xv : Int32} (hd : decode q.2.1 pc = .ok (.iload_n k, 1)) (hl : ls[(k : Nat)]? = some (some (.int xv))) : Rn E d mi pc ls (st) S = Rn E d mi (pc + 1) ls (.int xv :: st) S := R_go (stp_A hm hd (by simp only [stA, stK, stL, oe, ldI, hl, nxl, if_true]; rfl))
theorem R_iload (hm : mtb[mi]? = some q) {k : Nat} {xv : Int32} (hd : decode q.2.1 pc = .ok (.iload k, 2)) (hl : ls[k]? = some (some (.int xv))) : Rn E d mi pc ls (st) S = Rn E d mi (pc + 2) ls (.int xv :: st) S := R_go (stp_A hm hd (by simp only [stA, stK, stL, oe, ldI, hl, nxl, if_true]; rfl))
theorem R_aload_n (hm : mtb[mi]? = some q) {k : Fin 4} {xv : Nat} (hd : decode q.2.1 pc = .ok (.aload_n k, 1)) (hl : ls[(k : Nat)]? = some (some (.ref xv))) : Rn E d mi pc ls (st) S = Rn E d mi (pc + 1) ls (.ref xv :: st) S := R_go (stp_A hm hd (by simp only [stA, stK, stL, oe, ldA, hl, nxl, if_true]; rfl))
theorem R_aload (hm : mtb[mi]? = some q) {k : Nat} {xv : Nat} (hd : decode q.2.1 pc = .ok (.aload k, 2)) (hl : ls[k]? = some (some (.ref xv))) : Rn E d mi pc ls (st) S = Rn E d mi (pc + 2) ls (.ref xv :: st) S := R_go (stp_A hm hd (by simp only [stA, stK, stL, oe, ldA, hl, nxl, if_true]; rfl))
theorem R_lload_n (hm : mtb[mi]? = some q) {k : Fin 4} {xv : Int64} (hd : decode q.2.1 pc = .ok (.lload_n k, 1)) (hl : ls[(k : Nat)]? = some (some (.long xv))) : Rn E d mi pc ls (st) S = Rn E d mi (pc + 1) ls (.long xv :: st) S := R_go (stp_A hm hd (by simp only [stA, stK, stL, oe, ldL, hl, nxl, if_true]; rfl))
theorem R_lload (hm : mtb[mi]? = some q) {k : Nat} {xv : Int64} (hd : decode q.2.1 pc = .ok (.lload k, 2)) (hl : ls[k]? = some (some (.long xv))) : Rn E d mi pc ls (st) S = Rn E d mi (pc + 2) ls (.long xv :: st) S := R_go (stp_A hm hd (by simp only [stA, stK, stL, oe, ldL, hl, nxl, if_true]; rfl))
theorem R_istore_n (hm : mtb[mi]? = some q) {k : Fin 4} {xv : Int32} {lt : aLo} (hd : decode q.2.1 pc = .ok (.istore_n k, 1)) (hl : sto (k : Nat) (.int xv) ls = some lt) : Rn E d mi pc ls (.int xv :: st) S = Rn E d mi (pc + 1) lt (st) S := R_go (stp_A hm hd (by simp only [stA, stK, stL, stS, oe, hl, nxs, if_true]; rfl))
theorem R_istore (hm : mtb[mi]? = some q) {k : Nat} {xv : Int32} {lt : aLo} (hd : decode q.2.1 pc = .ok (.istore k, 2)) (hl : sto k (.int xv) ls = some lt) : Rn E d mi pc ls (.int xv :: st) S = Rn E d mi (pc + 2) lt (st) S := R_go (stp_A hm hd (by simp only [stA, stK, stL, stS, oe, hl, nxs, if_true]; rfl))
theorem R_astore_n (hm : mtb[mi]? = some q) {k : Fin 4} {xv : Nat} {lt : aLo} (hd : decode q.2.1 pc = .ok (.astore_n k, 1)) (hl : sto (k : Nat) (.ref xv) ls = some lt) : Rn E d mi pc ls (.ref xv :: st) S = Rn E d mi (pc + 1) lt (st) S := R_go (stp_A hm hd (by simp only [stA, stK, stL, stS, oe, hl, nxs, if_true]; rfl))
theorem R_astore (hm : mtb[mi]? = some q) {k : Nat} {xv : Nat} {lt : aLo} (hd : decode q.2.1 pc = .ok (.astore k, 2)) (hl : sto k (.ref xv) ls = some lt) : Rn E d mi pc ls (.ref xv :: st) S = Rn E d mi (pc + 2) lt (st) S := R_go (stp_A hm hd (by simp only [stA, stK, stL, stS, oe, hl, nxs, if_true]; rfl))
theorem R_iinc (hm : mtb[mi]? = some q) {k : Nat} {kn : Int} {xv : Int32} {lt : aLo} (hd : decode q.2.1 pc = .ok (.iinc k kn, 3)) (hx : ls[k]? = some (some (.int xv))) (hl : sto k (.int (xv + Int32.ofInt kn)) ls = some lt) : Rn E d mi pc ls (st) S = Rn E d mi (pc + 3) lt (st) S := R_go (stp_A hm hd (by simp only [stA, stK, stL, stS, oe, hx, hl, nxs, if_true]; rfl))
theorem R_iadd (hm : mtb[mi]? = some q) {xv yv : Int32} (hd : decode q.2.1 pc = .ok (.iadd, 1)) : Rn E d mi pc ls (.int yv :: .int xv :: st) S = Rn E d mi (pc + 1) ls (.int (xv + yv) :: st) S := R_go (stp_A hm hd (by rfl))
theorem R_isub (hm : mtb[mi]? = some q) {xv yv : Int32} (hd : decode q.2.1 pc = .ok (.isub, 1)) : Rn E d mi pc ls (.int yv :: .int xv :: st) S = Rn E d mi (pc + 1) ls (.int (xv - yv) :: st) S := R_go (stp_A hm hd (by rfl))
theorem R_imul (hm : mtb[mi]? = some q) {xv yv : Int32} (hd : decode q.2.1 pc = .ok (.imul, 1)) : Rn E d mi pc ls (.int yv :: .int xv :: st) S = Rn E d mi (pc + 1) ls (.int (xv * yv) :: st) S := R_go (stp_A hm hd (by rfl))
theorem R_iand (hm : mtb[mi]? = some q) {xv yv : Int32} (hd : decode q.2.1 pc = .ok (.iand, 1)) : Rn E d mi pc ls (.int yv :: .int xv :: st) S = Rn E d mi (pc + 1) ls (.int (xv &&& yv) :: st) S := R_go (stp_A hm hd (by rfl))
theorem R_ior (hm : mtb[mi]? = some q) {xv yv : Int32} (hd : decode q.2.1 pc = .ok (.ior, 1)) : Rn E d mi pc ls (.int yv :: .int xv :: st) S = Rn E d mi (pc + 1) ls (.int (xv ||| yv) :: st) S := R_go (stp_A hm hd (by rfl))
theorem R_ixor (hm : mtb[mi]? = some q) {xv yv : Int32} (hd : decode q.2.1 pc = .ok (.ixor, 1)) : Rn E d mi pc ls (.int yv :: .int xv :: st) S = Rn E d mi (pc + 1) ls (.int (xv ^^^ yv) :: st) S := R_go (stp_A hm hd (by rfl))
theorem R_ishl (hm : mtb[mi]? = some q) {xv yv : Int32} (hd : decode q.2.1 pc = .ok (.ishl, 1)) : Rn E d mi pc ls (.int yv :: .int xv :: st) S = Rn E d mi (pc + 1) ls (.int (xv <<< (yv &&& 31)) :: st) S := R_go (stp_A hm hd (by rfl))
theorem R_ishr (hm : mtb[mi]? = some q) {xv yv : Int32} (hd : decode q.2.1 pc = .ok (.ishr, 1)) : Rn E d mi pc ls (.int yv :: .int xv :: st) S = Rn E d mi (pc + 1) ls (.int (xv >>> (yv &&& 31)) :: st) S := R_go (stp_A hm hd (by rfl))
theorem R_iushr (hm : mtb[mi]? = some q) {xv yv : Int32} (hd : decode q.2.1 pc = .ok (.iushr, 1)) : Rn E d mi pc ls (.int yv :: .int xv :: st) S = Rn E d mi (pc + 1) ls (.int ((xv.toUInt32 >>> (yv.toUInt32 &&& Int32.toUInt32 31)).toInt32) :: st) S := R_go (stp_A hm hd (by rfl))
def dvK (xv yv : Int32) (K : Int32 → Option aRs) : Option aRs := if yv = 0 then none else K (xv / yv)
def rmK (xv yv : Int32) (K : Int32 → Option aRs) : Option aRs := if yv = 0 then none else K (xv - xv / yv * yv)
theorem R_idiv (hm : mtb[mi]? = some q) {xv yv : Int32} (hd : decode q.2.1 pc = .ok (.idiv, 1)) : Rn E d mi pc ls (.int yv :: .int xv :: st) S = dvK xv yv (fun vv => Rn E d mi (pc + 1) ls (.int vv :: st) S) := by
  unfold dvK
  by_cases h0 : yv = 0
  · rw [if_pos h0]
    exact R_no (by subst h0; cases E <;> (simp only [stp, hm, hd]; rfl))
  · rw [if_neg h0]
    exact R_go (stp_A hm hd (by simp only [stA, stK, stL, stS, stI, oe, bin, h0, if_true, if_false]; rfl))
theorem R_irem (hm : mtb[mi]? = some q) {xv yv : Int32} (hd : decode q.2.1 pc = .ok (.irem, 1)) : Rn E d mi pc ls (.int yv :: .int xv :: st) S = rmK xv yv (fun vv => Rn E d mi (pc + 1) ls (.int vv :: st) S) := by
  unfold rmK
  by_cases h0 : yv = 0
  · rw [if_pos h0]
    exact R_no (by subst h0; cases E <;> (simp only [stp, hm, hd]; rfl))
  · rw [if_neg h0]
    exact R_go (stp_A hm hd (by simp only [stA, stK, stL, stS, stI, oe, bin, h0, if_true, if_false]; rfl))
theorem R_ineg (hm : mtb[mi]? = some q) {xv : Int32} (hd : decode q.2.1 pc = .ok (.ineg, 1)) : Rn E d mi pc ls (.int xv :: st) S = Rn E d mi (pc + 1) ls (.int (-xv) :: st) S := R_go (stp_A hm hd (by rw [stA, stI_no (fun _ _ => rfl)]; rfl))
theorem R_i2b (hm : mtb[mi]? = some q) {xv : Int32} (hd : decode q.2.1 pc = .ok (.i2b, 1)) : Rn E d mi pc ls (.int xv :: st) S = Rn E d mi (pc + 1) ls (.int xv.toInt8.toInt32 :: st) S := R_go (stp_A hm hd (by rw [stA, stI_no (fun _ _ => rfl)]; rfl))
theorem R_i2s (hm : mtb[mi]? = some q) {xv : Int32} (hd : decode q.2.1 pc = .ok (.i2s, 1)) : Rn E d mi pc ls (.int xv :: st) S = Rn E d mi (pc + 1) ls (.int xv.toInt16.toInt32 :: st) S := R_go (stp_A hm hd (by rw [stA, stI_no (fun _ _ => rfl)]; rfl))
theorem R_i2c (hm : mtb[mi]? = some q) {xv : Int32} (hd : decode q.2.1 pc = .ok (.i2c, 1)) : Rn E d mi pc ls (.int xv :: st) S = Rn E d mi (pc + 1) ls (.int (xv.toUInt32 % 65536).toInt32 :: st) S := R_go (stp_A hm hd (by rw [stA, stI_no (fun _ _ => rfl)]; rfl))
theorem R_i2l (hm : mtb[mi]? = some q) {xv : Int32} (hd : decode q.2.1 pc = .ok (.i2l, 1)) : Rn E d mi pc ls (.int xv :: st) S = Rn E d mi (pc + 1) ls (.long xv.toInt64 :: st) S := R_go (stp_A hm hd (by rw [stA, stI_no (fun _ _ => rfl)]; rfl))
theorem R_ladd (hm : mtb[mi]? = some q) {xv yv : Int64} (hd : decode q.2.1 pc = .ok (.ladd, 1)) : Rn E d mi pc ls (.long yv :: .long xv :: st) S = Rn E d mi (pc + 1) ls (.long (xv + yv) :: st) S := R_go (stp_A hm hd (by rfl))
theorem R_lcmp (hm : mtb[mi]? = some q) {xv yv : Int64} (hd : decode q.2.1 pc = .ok (.lcmp, 1)) : Rn E d mi pc ls (.long yv :: .long xv :: st) S = Rn E d mi (pc + 1) ls (.int (lg_cmp xv yv) :: st) S := R_go (stp_A hm hd (by rfl))
theorem R_dupR (hm : mtb[mi]? = some q) {xv : Nat} (hd : decode q.2.1 pc = .ok (.dup, 1)) : Rn E d mi pc ls (.ref xv :: st) S = Rn E d mi (pc + 1) ls (.ref xv :: .ref xv :: st) S := R_go (stp_A hm hd (by rfl))
theorem R_dupI (hm : mtb[mi]? = some q) {xv : Int32} (hd : decode q.2.1 pc = .ok (.dup, 1)) : Rn E d mi pc ls (.int xv :: st) S = Rn E d mi (pc + 1) ls (.int xv :: .int xv :: st) S := R_go (stp_A hm hd (by rw [stA, stI_no (fun _ _ => rfl)]; rfl))
theorem R_dup2 (hm : mtb[mi]? = some q) {xv : Nat} {yv : Int32} (hd : decode q.2.1 pc = .ok (.dup2, 1)) : Rn E d mi pc ls (.int yv :: .ref xv :: st) S = Rn E d mi (pc + 1) ls (.int yv :: .ref xv :: .int yv :: .ref xv :: st) S := R_go (stp_A hm hd (by rfl))
theorem R_popI (hm : mtb[mi]? = some q) {xv : Int32} (hd : decode q.2.1 pc = .ok (.pop, 1)) : Rn E d mi pc ls (.int xv :: st) S = Rn E d mi (pc + 1) ls (st) S := R_go (stp_A hm hd (by rw [stA, stI_no (fun _ _ => rfl)]; rfl))
theorem R_ifG (hm : mtb[mi]? = some q) {c : ClassFile.Cond} {off : Int} {tgt : Nat} {xv : Int32} (hd : decode q.2.1 pc = .ok (.ifCond c off, 3)) (ht : tgOk pc off = true ∧ tgO pc off = tgt) : Rn E d mi pc ls (.int xv :: st) S = if cmpB c xv 0 = true then Rn E d mi tgt ls st S else Rn E d mi (pc + 3) ls st S := by
  obtain ⟨t1, t2⟩ := ht
  subst t2
  by_cases hc : cmpB c xv 0 = true
  · rw [if_pos hc]
    exact R_go (stp_A hm hd (by rw [stA, stI_no (fun _ _ => rfl), stU_no (fun _ => rfl)]; simp only [stK, stL, stS, stJ, stB, oe, hc, t1, nx, if_true, and_self]; rfl))
  · rw [if_neg hc]
    exact R_go (stp_A hm hd (by rw [stA, stI_no (fun _ _ => rfl), stU_no (fun _ => rfl)]; simp only [stK, stL, stS, stJ, stB, oe, hc, t1, nx, if_true, and_self]; rfl))
theorem R_icG (hm : mtb[mi]? = some q) {c : ClassFile.Cond} {off : Int} {tgt : Nat} {xv yv : Int32} (hd : decode q.2.1 pc = .ok (.if_icmp c off, 3)) (ht : tgOk pc off = true ∧ tgO pc off = tgt) : Rn E d mi pc ls (.int yv :: .int xv :: st) S = if cmpB c xv yv = true then Rn E d mi tgt ls st S else Rn E d mi (pc + 3) ls st S := by
  obtain ⟨t1, t2⟩ := ht
  subst t2
  by_cases hc : cmpB c xv yv = true
  · rw [if_pos hc]
    exact R_go (stp_A hm hd (by rw [stA, stI_no (fun _ _ => rfl), stU_no (fun _ => rfl)]; simp only [stK, stL, stS, stJ, stB, oe, hc, t1, nx, if_true, and_self]; rfl))
  · rw [if_neg hc]
    exact R_go (stp_A hm hd (by rw [stA, stI_no (fun _ _ => rfl), stU_no (fun _ => rfl)]; simp only [stK, stL, stS, stJ, stB, oe, hc, t1, nx, if_true, and_self]; rfl))
theorem R_goto (hm : mtb[mi]? = some q) {off : Int} {tgt : Nat} (hd : decode q.2.1 pc = .ok (.goto off, 3)) (ht : tgOk pc off = true ∧ tgO pc off = tgt) : Rn E d mi pc ls st S = Rn E d mi tgt ls st S := by
  obtain ⟨t1, t2⟩ := ht
  subst t2
  exact R_go (stp_A hm hd (by rw [stA, stI_no (fun _ _ => rfl), stU_no (fun _ => rfl)]; simp only [stK, stL, stS, stJ, stB, oe, t1, nx, if_true, and_self]; rfl))
theorem R_ifeq (hm : mtb[mi]? = some q) {off : Int} {tgt : Nat} {xv : Int32} (hd : decode q.2.1 pc = .ok (.ifCond .eq off, 3)) (ht : tgOk pc off = true ∧ tgO pc off = tgt) : Rn E d mi pc ls (.int xv :: st) S = if xv = 0 then Rn E d mi tgt ls st S else Rn E d mi (pc + 3) ls st S := by
  rw [R_ifG hm hd ht]; simp only [cmpB, decide_eq_true_eq]
theorem R_iceq (hm : mtb[mi]? = some q) {off : Int} {tgt : Nat} {xv yv : Int32} (hd : decode q.2.1 pc = .ok (.if_icmp .eq off, 3)) (ht : tgOk pc off = true ∧ tgO pc off = tgt) : Rn E d mi pc ls (.int yv :: .int xv :: st) S = if xv = yv then Rn E d mi tgt ls st S else Rn E d mi (pc + 3) ls st S := by
  rw [R_icG hm hd ht]; simp only [cmpB, decide_eq_true_eq]
theorem R_ifne (hm : mtb[mi]? = some q) {off : Int} {tgt : Nat} {xv : Int32} (hd : decode q.2.1 pc = .ok (.ifCond .ne off, 3)) (ht : tgOk pc off = true ∧ tgO pc off = tgt) : Rn E d mi pc ls (.int xv :: st) S = if ¬ xv = 0 then Rn E d mi tgt ls st S else Rn E d mi (pc + 3) ls st S := by
  rw [R_ifG hm hd ht]; simp only [cmpB, decide_eq_true_eq]
theorem R_icne (hm : mtb[mi]? = some q) {off : Int} {tgt : Nat} {xv yv : Int32} (hd : decode q.2.1 pc = .ok (.if_icmp .ne off, 3)) (ht : tgOk pc off = true ∧ tgO pc off = tgt) : Rn E d mi pc ls (.int yv :: .int xv :: st) S = if ¬ xv = yv then Rn E d mi tgt ls st S else Rn E d mi (pc + 3) ls st S := by
  rw [R_icG hm hd ht]; simp only [cmpB, decide_eq_true_eq]
theorem R_iflt (hm : mtb[mi]? = some q) {off : Int} {tgt : Nat} {xv : Int32} (hd : decode q.2.1 pc = .ok (.ifCond .lt off, 3)) (ht : tgOk pc off = true ∧ tgO pc off = tgt) : Rn E d mi pc ls (.int xv :: st) S = if xv < 0 then Rn E d mi tgt ls st S else Rn E d mi (pc + 3) ls st S := by
  rw [R_ifG hm hd ht]; simp only [cmpB, decide_eq_true_eq]
theorem R_iclt (hm : mtb[mi]? = some q) {off : Int} {tgt : Nat} {xv yv : Int32} (hd : decode q.2.1 pc = .ok (.if_icmp .lt off, 3)) (ht : tgOk pc off = true ∧ tgO pc off = tgt) : Rn E d mi pc ls (.int yv :: .int xv :: st) S = if xv < yv then Rn E d mi tgt ls st S else Rn E d mi (pc + 3) ls st S := by
  rw [R_icG hm hd ht]; simp only [cmpB, decide_eq_true_eq]
theorem R_ifge (hm : mtb[mi]? = some q) {off : Int} {tgt : Nat} {xv : Int32} (hd : decode q.2.1 pc = .ok (.ifCond .ge off, 3)) (ht : tgOk pc off = true ∧ tgO pc off = tgt) : Rn E d mi pc ls (.int xv :: st) S = if 0 ≤ xv then Rn E d mi tgt ls st S else Rn E d mi (pc + 3) ls st S := by
  rw [R_ifG hm hd ht]; simp only [cmpB, decide_eq_true_eq]
theorem R_icge (hm : mtb[mi]? = some q) {off : Int} {tgt : Nat} {xv yv : Int32} (hd : decode q.2.1 pc = .ok (.if_icmp .ge off, 3)) (ht : tgOk pc off = true ∧ tgO pc off = tgt) : Rn E d mi pc ls (.int yv :: .int xv :: st) S = if yv ≤ xv then Rn E d mi tgt ls st S else Rn E d mi (pc + 3) ls st S := by
  rw [R_icG hm hd ht]; simp only [cmpB, decide_eq_true_eq]
theorem R_ifgt (hm : mtb[mi]? = some q) {off : Int} {tgt : Nat} {xv : Int32} (hd : decode q.2.1 pc = .ok (.ifCond .gt off, 3)) (ht : tgOk pc off = true ∧ tgO pc off = tgt) : Rn E d mi pc ls (.int xv :: st) S = if 0 < xv then Rn E d mi tgt ls st S else Rn E d mi (pc + 3) ls st S := by
  rw [R_ifG hm hd ht]; simp only [cmpB, decide_eq_true_eq]
theorem R_icgt (hm : mtb[mi]? = some q) {off : Int} {tgt : Nat} {xv yv : Int32} (hd : decode q.2.1 pc = .ok (.if_icmp .gt off, 3)) (ht : tgOk pc off = true ∧ tgO pc off = tgt) : Rn E d mi pc ls (.int yv :: .int xv :: st) S = if yv < xv then Rn E d mi tgt ls st S else Rn E d mi (pc + 3) ls st S := by
  rw [R_icG hm hd ht]; simp only [cmpB, decide_eq_true_eq]
theorem R_ifle (hm : mtb[mi]? = some q) {off : Int} {tgt : Nat} {xv : Int32} (hd : decode q.2.1 pc = .ok (.ifCond .le off, 3)) (ht : tgOk pc off = true ∧ tgO pc off = tgt) : Rn E d mi pc ls (.int xv :: st) S = if xv ≤ 0 then Rn E d mi tgt ls st S else Rn E d mi (pc + 3) ls st S := by
  rw [R_ifG hm hd ht]; simp only [cmpB, decide_eq_true_eq]
theorem R_icle (hm : mtb[mi]? = some q) {off : Int} {tgt : Nat} {xv yv : Int32} (hd : decode q.2.1 pc = .ok (.if_icmp .le off, 3)) (ht : tgOk pc off = true ∧ tgO pc off = tgt) : Rn E d mi pc ls (.int yv :: .int xv :: st) S = if xv ≤ yv then Rn E d mi tgt ls st S else Rn E d mi (pc + 3) ls st S := by
  rw [R_icG hm hd ht]; simp only [cmpB, decide_eq_true_eq]
/-- switches -/
def swZ (xv : Int32) : Nat → List Nat → Nat → (Nat → Option aRs) → Option aRs
  | _, [], df, K => K df
  | lo, tg :: ts, df, K => if xv = nI lo then K tg else swZ xv (lo + 1) ts df K
def swP (kv : Int) : List (Int × Nat) → Nat → (Nat → Option aRs) → Option aRs
  | [], df, K => K df
  | (mv, tg) :: ts, df, K => if mv = kv then K tg else swP kv ts df K
theorem swZ_eq (xv : Int32) (df : Nat) (K : Nat → Option aRs) : ∀ (ts : List Nat) (lo : Nat), lo + ts.length < 2 ^ 31 → swZ xv lo ts df K = if xv.toInt < lo ∨ ((lo : Int) + ts.length) ≤ xv.toInt then K df else K (ts.getD (xv.toInt - lo).toNat df) := by
  intro ts
  induction ts with
  | nil =>
    intro lo h
    rw [if_pos (by simp; omega)]
    rfl
  | cons tg ts ih =>
    intro lo h
    simp only [List.length_cons] at h
    show (if xv = nI lo then K tg else swZ xv (lo + 1) ts df K) = _
    by_cases hx : xv = nI lo
    · rw [if_pos hx, if_neg]
      · rw [hx, nI_toInt (by omega)]
        simp
      · rw [hx, nI_toInt (by omega)]
        simp only [List.length_cons]
        omega
    · rw [if_neg hx, ih (lo + 1) (by omega)]
      have hne : ¬ xv.toInt = (lo : Int) := by
        intro hz
        apply hx
        apply Int32.toInt_inj.mp
        rw [hz, nI_toInt (by omega)]
      by_cases hc : xv.toInt < lo ∨ ((lo : Int) + (tg :: ts).length) ≤ xv.toInt
      · rw [if_pos hc, if_pos]
        simp only [List.length_cons] at hc
        omega
      · rw [if_neg hc, if_neg]
        · simp only [List.length_cons] at hc
          have e1 : (xv.toInt - (lo : Int)).toNat = (xv.toInt - ((lo + 1 : Nat) : Int)).toNat + 1 := by omega
          rw [e1]
          rfl
        · simp only [List.length_cons] at hc
          omega
theorem R_tsw (hm : mtb[mi]? = some q) {df hi : Int} {lo n : Nat} {offs : Array Int} {xv : Int32} {ts : List Nat} {td : Nat} (hd : decode q.2.1 pc = .ok (.tableswitch df (lo : Int) hi offs, n))
    (hc : (offs.toList.map (tgO pc) = ts ∧ offs.toList.all (tgOk pc) = true) ∧ (tgOk pc df = true ∧ tgO pc df = td) ∧ hi + 1 = (lo : Int) + ts.length ∧ lo + ts.length < 2 ^ 31) : Rn E d mi pc ls (.int xv :: st) S = swZ xv lo ts td (fun tg => Rn E d mi tg ls st S) := by
  obtain ⟨⟨c1, c2⟩, ⟨c3, c4⟩, c5, c6⟩ := hc
  rw [swZ_eq xv td _ ts lo c6]
  by_cases hx : xv.toInt < lo ∨ ((lo : Int) + ts.length) ≤ xv.toInt
  · rw [if_pos hx]
    have hx' : xv.toInt < (lo : Int) ∨ hi < xv.toInt := by omega
    subst c4
    exact R_go (stp_A hm hd (by rw [stA, stI_no (fun _ _ => rfl), stU_no (fun _ => rfl)]; simp only [stK, stL, stS, stJ, stB, oe, hx', c3, nx, if_true, ite_self]))
  · rw [if_neg hx]
    have hx' : ¬ (xv.toInt < (lo : Int) ∨ hi < xv.toInt) := by omega
    have hlt : (xv.toInt - (lo : Int)).toNat < ts.length := by omega
    have hl2 : (xv.toInt - (lo : Int)).toNat < offs.size := by
      have : ts.length = offs.size := by rw [← c1]; simp
      omega
    have ho : offs[(xv.toInt - (lo : Int)).toNat]? = some offs[(xv.toInt - (lo : Int)).toNat] := Array.getElem?_eq_getElem hl2
    have hok : tgOk pc offs[(xv.toInt - (lo : Int)).toNat] = true := List.all_eq_true.mp c2 _ (Array.getElem_mem_toList hl2)
    have htg : ts.getD (xv.toInt - (lo : Int)).toNat td = tgO pc offs[(xv.toInt - (lo : Int)).toNat] := by
      rw [← c1, List.getD_eq_getElem?_getD, List.getElem?_map, Array.getElem?_toList, ho]
      rfl
    rw [htg]
    exact R_go (stp_A hm hd (by rw [stA, stI_no (fun _ _ => rfl), stU_no (fun _ => rfl)]; simp only [stK, stL, stS, stJ, stB, oe, hx', ho, hok, nx, if_true, if_false, ite_self]))
theorem swP_eq (kv : Int) (K : Nat → Option aRs) (pc : Nat) (df : Int) : ∀ (ps : List (Int × Int)), swP kv (ps.map (fun aa => (aa.1, tgO pc aa.2))) (tgO pc df) K = K (tgO pc (Op.lookupswitch.offset ps df kv)) := by
  intro ps
  induction ps with
  | nil => rfl
  | cons aa ps ih =>
    show (if aa.1 = kv then K (tgO pc aa.2) else swP kv (ps.map (fun aa => (aa.1, tgO pc aa.2))) (tgO pc df) K) = K (tgO pc (if aa.1 = kv then aa.2 else Op.lookupswitch.offset ps df kv))
    by_cases h : aa.1 = kv
    · rw [if_pos h, if_pos h]
    · rw [if_neg h, if_neg h, ih]
theorem off_ok (pc : Nat) (df kv : Int) : ∀ (ps : List (Int × Int)), tgOk pc df = true → ps.all (fun aa => tgOk pc aa.2) = true → tgOk pc (Op.lookupswitch.offset ps df kv) = true := by
  intro ps
  induction ps with
  | nil => intro h _; exact h
  | cons aa ps ih =>
    intro h1 h2
    simp only [List.all_cons, Bool.and_eq_true] at h2
    show tgOk pc (if aa.1 = kv then aa.2 else Op.lookupswitch.offset ps df kv) = true
    by_cases h : aa.1 = kv
    · rw [if_pos h]; exact h2.1
    · rw [if_neg h]; exact ih h1 h2.2
theorem R_lsw (hm : mtb[mi]? = some q) {df : Int} {n : Nat} {ps : Array (Int × Int)} {xv : Int32} {ts : List (Int × Nat)} {td : Nat} (hd : decode q.2.1 pc = .ok (.lookupswitch df ps, n))
    (hc : (ps.toList.zip (ps.toList.drop 1)).all (fun (a, next) => a.1 < next.1) = true ∧ ps.toList.map (fun aa => (aa.1, tgO pc aa.2)) = ts ∧ ps.toList.all (fun aa => tgOk pc aa.2) = true ∧ tgOk pc df = true ∧ tgO pc df = td) : Rn E d mi pc ls (.int xv :: st) S = swP xv.toInt ts td (fun tg => Rn E d mi tg ls st S) := by
  obtain ⟨c1, c2, c3, c4, c5⟩ := hc
  rw [← c2, ← c5, swP_eq]
  have h9 := off_ok pc df xv.toInt ps.toList c4 c3
  exact R_go (stp_A hm hd (by rw [stA, stI_no (fun _ _ => rfl), stU_no (fun _ => rfl)]; simp only [stK, stL, stS, stJ, stB, oe, c1, h9, nx, if_true, and_self, ite_self]))

theorem R_getf (hm : mtb[mi]? = some q) {kx h : Nat} {e : Nat × Nat × Nat × Nat × Nat} (hd : decode q.2.1 pc = .ok (.getfield kx, 3)) (he : fldE q.2.2.2.2 kx = some e) : Rn E d mi pc ls (.ref h :: st) S = gfK S h e.2.2.1 e.2.2.2.1 (fun vv => Rn E d mi (pc + 3) ls (vv :: st) S) := by
  unfold gfK
  cases hs : shO S h e.2.2.1 e.2.2.2.1 with
  | none => exact R_no (by cases E <;> (simp only [stp, hm, hd]; rw [stA, stI_no (fun _ _ => rfl), stU_no (fun _ => rfl)]; simp only [stK, stL, stS, stJ, stB, stH, stM, stC, stR, stX, oe, he, hs, if_true, ite_self] <;> rfl))
  | some sh => exact R_go (stp_A hm hd (by rw [stA, stI_no (fun _ _ => rfl), stU_no (fun _ => rfl)]; simp only [stK, stL, stS, stJ, stB, stH, oe, he, hs, nx, if_true, ite_self] <;> rfl))
theorem R_getS (hm : mtb[mi]? = some q) {kx h : Nat} {e : Nat × Nat × Nat × Nat} (hd : decode q.2.1 pc = .ok (.getfield kx, 3)) (hn : fldE q.2.2.2.2 kx = none) (he : sfdE q.2.2.2.2 kx = some e) (h1 : 1010 ≤ h ∧ h < 1021) : Rn E d mi pc ls (.ref h :: st) S = Rn E d mi (pc + 3) ls ((if e.2.2.1 = 0 then .ref (h + 20) else .int 0) :: st) S :=
  R_go (stp_A hm hd (by rw [stA, stI_no (fun _ _ => rfl), stU_no (fun _ => rfl)]; simp only [stK, stL, stS, stJ, stB, stH, oe, hn, he, h1, nx, if_true, ite_self, and_self] <;> rfl))
theorem R_putI (hm : mtb[mi]? = some q) {kx h : Nat} {xv : Int32} {e : Nat × Nat × Nat × Nat × Nat} (hd : decode q.2.1 pc = .ok (.putfield kx, 3)) (he : fldE q.2.2.2.2 kx = some e) (ht : fty e.2.2.1 e.2.2.2.1 = .int ∨ (fty e.2.2.1 e.2.2.2.1 = .boolean ∧ (xv = 0 ∨ xv = 1))) : Rn E d mi pc ls (.int xv :: .ref h :: st) S = pfK S h e.2.2.1 e.2.2.2.1 xv (fun St => Rn E d mi (pc + 3) ls st St) := by
  unfold pfK
  cases hs : shO S h e.2.2.1 e.2.2.2.1 with
  | none => exact R_no (by cases E <;> (simp only [stp, hm, hd]; rw [stA, stI_no (fun _ _ => rfl), stU_no (fun _ => rfl)]; simp only [stK, stL, stS, stJ, stB, stH, stM, stC, stR, stX, oe, he, hs, if_true, ite_self] <;> rfl))
  | some sh => exact R_go (stp_A hm hd (by rw [stA, stI_no (fun _ _ => rfl), stU_no (fun _ => rfl)]; simp only [stK, stL, stS, stJ, stB, stH, oe, he, hs, nx, if_pos ht, if_true, ite_self] <;> rfl))
theorem R_gets (hm : mtb[mi]? = some q) {kx : Nat} {e : Nat × Nat × Nat × Nat} (hd : decode q.2.1 pc = .ok (.getstatic kx, 3)) (he : gstE q.2.2.2.2 kx = some e) : Rn E d mi pc ls st S = Rn E d mi (pc + 3) ls ((if e.2.2.1 = 0 then .ref 1002 else if e.2.2.1 = 1 then .int 1 else .retAddr 0) :: st) S :=
  R_go (stp_A hm hd (by rw [stA, stI_no (fun _ _ => rfl), stU_no (fun _ => rfl)]; simp only [stK, stL, stS, stJ, stB, stH, oe, he, nx, if_true, ite_self] <;> rfl))
theorem R_iald (hm : mtb[mi]? = some q) {h : Nat} {jv : Int32} (hd : decode q.2.1 pc = .ok (.iaload, 1)) (hh : h ≠ 1000) : Rn E d mi pc ls (.int jv :: .ref h :: st) S = ald S h jv (fun vv => Rn E d mi (pc + 1) ls (vv :: st) S) := by
  unfold ald
  cases hs : rdI S h jv with
  | none => exact R_no (by cases E <;> (simp only [stp, hm, hd]; rw [stA, stI_no (fun _ _ => rfl), stU_no (fun _ => rfl)]; simp only [stK, stL, stS, stJ, stB, stH, stM, stC, stR, stX, oe, hs, hh, false_and, if_false, if_true, ite_self]))
  | some vv => exact R_go (stp_A hm hd (by rw [stA, stI_no (fun _ _ => rfl), stU_no (fun _ => rfl)]; simp only [stK, stL, stS, stJ, stB, stH, oe, hs, nx, if_true, ite_self]))
theorem R_bald (hm : mtb[mi]? = some q) {h : Nat} {jv : Int32} (hd : decode q.2.1 pc = .ok (.baload, 1)) : Rn E d mi pc ls (.int jv :: .ref h :: st) S = bld S h jv (fun vv => Rn E d mi (pc + 1) ls (vv :: st) S) := by
  unfold bld
  cases hs : rdB S h jv with
  | none => exact R_no (by cases E <;> (simp only [stp, hm, hd]; rw [stA, stI_no (fun _ _ => rfl), stU_no (fun _ => rfl)]; simp only [stK, stL, stS, stJ, stB, stH, stM, stC, stR, stX, oe, hs, if_true, ite_self]))
  | some vv => exact R_go (stp_A hm hd (by rw [stA, stI_no (fun _ _ => rfl), stU_no (fun _ => rfl)]; simp only [stK, stL, stS, stJ, stB, stH, oe, hs, nx, if_true, ite_self]))
theorem R_aald (hm : mtb[mi]? = some q) {h : Nat} {jv : Int32} (hd : decode q.2.1 pc = .ok (.aaload, 1)) : Rn E d mi pc ls (.int jv :: .ref h :: st) S = qld S h jv (fun vv => Rn E d mi (pc + 1) ls (vv :: st) S) := by
  unfold qld
  cases hs : S.1[h]? with
  | none => exact R_no (by cases E <;> (simp only [stp, hm, hd]; rw [stA, stI_no (fun _ _ => rfl), stU_no (fun _ => rfl)]; simp only [stK, stL, stS, stJ, stB, stH, stM, stC, stR, stX, oe, hs, if_true, ite_self]))
  | some sh =>
    by_cases hc : 4 ≤ sh.1 ∧ sh.1 < 7 ∧ inb jv sh.2.1 = true
    · simp only [if_pos hc]
      exact R_go (stp_A hm hd (by rw [stA, stI_no (fun _ _ => rfl), stU_no (fun _ => rfl)]; simp only [stK, stL, stS, stJ, stB, stH, oe, hs, if_pos hc, nx, if_true, ite_self]))
    · simp only [if_neg hc]
      exact R_no (by cases E <;> (simp only [stp, hm, hd]; rw [stA, stI_no (fun _ _ => rfl), stU_no (fun _ => rfl)]; simp only [stK, stL, stS, stJ, stB, stH, stM, stC, stR, stX, oe, hs, if_neg hc, if_true, ite_self]))
theorem R_iast (hm : mtb[mi]? = some q) {h : Nat} {jv xv : Int32} (hd : decode q.2.1 pc = .ok (.iastore, 1)) : Rn E d mi pc ls (.int xv :: .int jv :: .ref h :: st) S = ast S h jv xv (fun St => Rn E d mi (pc + 1) ls st St) := by
  unfold ast
  cases hs : shA S h 0 jv with
  | none => exact R_no (by cases E <;> (simp only [stp, hm, hd]; rw [stA, stI_no (fun _ _ => rfl), stU_no (fun _ => rfl)]; simp only [stK, stL, stS, stJ, stB, stH, stM, stC, stR, stX, oe, hs, if_true, ite_self]))
  | some sh => exact R_go (stp_A hm hd (by rw [stA, stI_no (fun _ _ => rfl), stU_no (fun _ => rfl)]; simp only [stK, stL, stS, stJ, stB, stH, oe, hs, nx, if_true, ite_self]))
theorem R_bast (hm : mtb[mi]? = some q) {h : Nat} {jv xv : Int32} (hd : decode q.2.1 pc = .ok (.bastore, 1)) : Rn E d mi pc ls (.int xv :: .int jv :: .ref h :: st) S = bst S h jv xv (fun St => Rn E d mi (pc + 1) ls st St) := by
  unfold bst
  cases hs : shA S h 1 jv with
  | none => exact R_no (by cases E <;> (simp only [stp, hm, hd]; rw [stA, stI_no (fun _ _ => rfl), stU_no (fun _ => rfl)]; simp only [stK, stL, stS, stJ, stB, stH, stM, stC, stR, stX, oe, hs, if_true, ite_self]))
  | some sh => exact R_go (stp_A hm hd (by rw [stA, stI_no (fun _ _ => rfl), stU_no (fun _ => rfl)]; simp only [stK, stL, stS, stJ, stB, stH, oe, hs, nx, if_true, ite_self]))
theorem R_alenT (hm : mtb[mi]? = some q) {h : Nat} (hd : decode q.2.1 pc = .ok (.arraylength, 1)) (h1 : 1030 ≤ h ∧ h < 1041) : Rn E d mi pc ls (.ref h :: st) S = Rn E d mi (pc + 1) ls (.int (Int32.ofNat (strX.getD (h - 1030) []).length) :: st) S :=
  R_go (stp_A hm hd (by rw [stA, stI_no (fun _ _ => rfl), stU_no (fun _ => rfl)]; simp only [stK, stL, stS, stJ, stB, stH, oe, h1, nx, if_true, ite_self, and_self]))
theorem R_acp (hm : mtb[mi]? = some q) {kx a b : Nat} {sp dp kn : Int32} {e : Nat × Nat × Nat} (hd : decode q.2.1 pc = .ok (.invokestatic kx, 3)) (he : acpE q.2.2.2.2 kx = some e) (h4 : st.length ≤ 4) (hx : matE q.2.2.2.2 kx = none ∧ mthE q.2.2.2.2 kx = none) : Rn E (d + 1) mi pc ls (.int kn :: .int dp :: .ref b :: .int sp :: .ref a :: st) S = cpK S a sp b dp kn (fun St => Rn E (d + 1) mi (pc + 3) ls st St) := by
  unfold cpK
  cases hs : S.1[a]? with
  | none => exact R_no (by cases E <;> (simp only [stp, hm, hd]; rw [stA, stI_no (fun _ _ => rfl), stU_no (fun _ => rfl)]; simp only [stK, stL, stS, stJ, stB, stH, stM, stC, stR, stX, oe, he, hs, hx.1, hx.2, if_true, ite_self] <;> rfl))
  | some s0 =>
    cases hs1 : S.1[b]? with
    | none => exact R_no (by cases E <;> (simp only [stp, hm, hd]; rw [stA, stI_no (fun _ _ => rfl), stU_no (fun _ => rfl)]; simp only [stK, stL, stS, stJ, stB, stH, stM, stC, stR, stX, oe, he, hs, hs1, hx.1, hx.2, if_true, ite_self] <;> rfl))
    | some s1 =>
      by_cases hc : s0.1 = 0 ∧ s1.1 = 0 ∧ ¬ sp < 0 ∧ ¬ dp < 0 ∧ ¬ kn < 0 ∧ ix sp + ix kn ≤ s0.2.1 ∧ ix dp + ix kn ≤ s1.2.1
      · have hc' : s0.1 = 0 ∧ s1.1 = 0 ∧ ¬ sp < 0 ∧ ¬ dp < 0 ∧ ¬ kn < 0 ∧ ix sp + ix kn ≤ s0.2.1 ∧ ix dp + ix kn ≤ s1.2.1 ∧ 1 ≤ d + 1 ∧ st.length ≤ 4 := ⟨hc.1, hc.2.1, hc.2.2.1, hc.2.2.2.1, hc.2.2.2.2.1, hc.2.2.2.2.2.1, hc.2.2.2.2.2.2, by omega, h4⟩
        simp only [if_pos hc]
        exact R_go (stp_A hm hd (by rw [stA, stI_no (fun _ _ => rfl), stU_no (fun _ => rfl)]; simp only [stK, stL, stS, stJ, stB, stH, oe, he, hs, hs1, if_pos hc', nx, if_true, ite_self] <;> rfl))
      · have hc' : ¬ (s0.1 = 0 ∧ s1.1 = 0 ∧ ¬ sp < 0 ∧ ¬ dp < 0 ∧ ¬ kn < 0 ∧ ix sp + ix kn ≤ s0.2.1 ∧ ix dp + ix kn ≤ s1.2.1 ∧ 1 ≤ d + 1 ∧ st.length ≤ 4) := fun z => hc ⟨z.1, z.2.1, z.2.2.1, z.2.2.2.1, z.2.2.2.2.1, z.2.2.2.2.2.1, z.2.2.2.2.2.2.1⟩
        simp only [if_neg hc]
        exact R_no (by cases E <;> (simp only [stp, hm, hd]; rw [stA, stI_no (fun _ _ => rfl), stU_no (fun _ => rfl)]; simp only [stK, stL, stS, stJ, stB, stH, stM, stC, stR, stX, oe, he, hs, hs1, hx.1, hx.2, if_neg hc', if_true, ite_self] <;> rfl))
theorem R_mat2 (hm : mtb[mi]? = some q) {kx : Nat} {xv yv : Int32} {e : Nat × Nat × Nat × Nat} (hd : decode q.2.1 pc = .ok (.invokestatic kx, 3)) (hn : acpE q.2.2.2.2 kx = none) (he : matE q.2.2.2.2 kx = some e) (h2 : ¬ e.2.2.1 = 2) (h4 : st.length ≤ 4) : Rn E (d + 1) mi pc ls (.int yv :: .int xv :: st) S = Rn E (d + 1) mi (pc + 3) ls (.int (if e.2.2.1 = 0 then (if xv < yv then yv else xv) else (if yv < xv then yv else xv)) :: st) S := by
  have h3 : (3 : Nat) = 3 ∧ 1 ≤ d + 1 := ⟨rfl, by omega⟩
  exact R_go (stp_A hm hd (by rw [stA, stI_no (fun _ _ => rfl), stU_no (fun _ => rfl)]; simp only [stK, stL, stS, stJ, stB, stH, stM, oe, hn, he, if_pos h3, if_neg h2, if_pos h4, nx, if_true, ite_self] <;> rfl))
theorem R_mat1 (hm : mtb[mi]? = some q) {kx : Nat} {xv : Int32} {e : Nat × Nat × Nat × Nat} (hd : decode q.2.1 pc = .ok (.invokestatic kx, 3)) (hn : acpE q.2.2.2.2 kx = none) (he : matE q.2.2.2.2 kx = some e) (h2 : e.2.2.1 = 2) (h4 : st.length ≤ 4) : Rn E (d + 1) mi pc ls (.int xv :: st) S = Rn E (d + 1) mi (pc + 3) ls (.int (if 0 ≤ xv then xv else 0 - xv) :: st) S := by
  have h3 : (3 : Nat) = 3 ∧ 1 ≤ d + 1 := ⟨rfl, by omega⟩
  exact R_go (stp_A hm hd (by rw [stA, stI_no (fun _ _ => rfl), stU_no (fun _ => rfl)]; simp only [stK, stL, stS, stJ, stB, stH, stM, oe, hn, he, if_pos h3, if_pos h2, if_pos h4, nx, if_true, ite_self] <;> rfl))
theorem R_bnd {xx : Option aRs} {K : Option Value → aSt → Option aRs} : xx.bind (fun rr => K rr.1 rr.2) = clK xx K := by
  cases xx <;> rfl
theorem R_callS (hm : mtb[mi]? = some q) {kx : Nat} {e : Nat × Nat × Nat × Nat × Nat × Nat × Nat × Nat × Nat × Nat} {y : aMt} {as rest : List Value} {ls1 : aLo} (hd : decode q.2.1 pc = .ok (.invokestatic kx, 3)) (he : mthE q.2.2.2.2 kx = some e ∧ acpE q.2.2.2.2 kx = none ∧ matE q.2.2.2.2 kx = none ∧ (e.2.2.2.1 = 0 ∨ e.2.2.2.1 = 3)) (hy : mtb[e.2.2.1]? = some y) (hs : splA e.2.2.2.2.1 [] st = some (as, rest)) (hl : (entA as).length ≤ y.2.2.1 ∧ rest.length ≤ 4) (h1 : ent y.2.2.1 as = ls1) :
    Rn E (d + 1) mi pc ls st S = clK (Rn E d e.2.2.1 0 ls1 [] S) (fun vv St => Rn E (d + 1) mi (pc + 3) ls (vv.toList ++ rest) St) := by
  obtain ⟨e1, e2, e3, e4⟩ := he
  subst h1
  have hst : stp E (d + 1, mi, pc, ls, st, S) = some (.inr (.inr ((d, e.2.2.1, 0, ent y.2.2.1 as, [], S), fun r => some (d + 1, mi, pc + 3, ls, r.1.toList ++ rest, r.2)))) := stp_A hm hd (by rw [stA, stI_no (fun _ _ => rfl), stU_no (fun _ => rfl)]; simp only [stK, stL, stS, stJ, stB, stH, stM, stC, oe, e1, e2, e3, if_pos e4, hy, hs, cal, if_pos hl, if_true, ite_self])
  unfold Rn
  rw [RN_eq, hst]
  show (RN E _).bind (fun r => RN E (d + 1, mi, pc + 3, ls, r.1.toList ++ rest, r.2)) = _
  rw [← R_bnd]
/-- a call on an object -/
def clV (S : aSt) (h own : Nat) (x : Option aRs) (K : Option Value → aSt → Option aRs) : Option aRs := if rcv S h own = true then clK x K else none
theorem R_callV (hm : mtb[mi]? = some q) {kx h : Nat} {e : Nat × Nat × Nat × Nat × Nat × Nat × Nat × Nat × Nat × Nat} {y : aMt} {as rest : List Value} {ls1 : aLo} (hd : decode q.2.1 pc = .ok (.invokevirtual kx, 3)) (he : mthE q.2.2.2.2 kx = some e ∧ e.2.2.2.1 = 1) (hy : mtb[e.2.2.1]? = some y) (hs : splA e.2.2.2.2.1 [] st = some (as, .ref h :: rest)) (hl : (entA (.ref h :: as)).length ≤ y.2.2.1 ∧ rest.length ≤ 4) (h1 : ent y.2.2.1 (.ref h :: as) = ls1) :
    Rn E (d + 1) mi pc ls st S = clV S h y.2.2.2.2 (Rn E d e.2.2.1 0 ls1 [] S) (fun vv St => Rn E (d + 1) mi (pc + 3) ls (vv.toList ++ rest) St) := by
  obtain ⟨e1, e4⟩ := he
  subst h1
  unfold clV
  by_cases hr : rcv S h y.2.2.2.2 = true
  · rw [if_pos hr]
    have hst : stp E (d + 1, mi, pc, ls, st, S) = some (.inr (.inr ((d, e.2.2.1, 0, ent y.2.2.1 (.ref h :: as), [], S), fun r => some (d + 1, mi, pc + 3, ls, r.1.toList ++ rest, r.2)))) := stp_A hm hd (by rw [stA, stI_no (fun _ _ => rfl), stU_no (fun _ => rfl)]; simp only [stK, stL, stS, stJ, stB, stH, stM, stC, oe, e1, if_pos e4, hy, hs, if_pos hr, cal, if_pos hl, if_true, ite_self])
    unfold Rn
    rw [RN_eq, hst]
    show (RN E _).bind (fun r => RN E (d + 1, mi, pc + 3, ls, r.1.toList ++ rest, r.2)) = _
    rw [← R_bnd]
  · rw [if_neg hr]
    exact R_no (by cases E <;> (simp only [stp, hm, hd]; rw [stA, stI_no (fun _ _ => rfl), stU_no (fun _ => rfl)]; simp only [stK, stL, stS, stJ, stB, stH, stM, stC, stR, stX, oe, e1, if_pos e4, hy, hs, if_neg hr, if_true, ite_self]))
theorem R_iret (hm : mtb[mi]? = some q) {xv : Int32} (hd : decode q.2.1 pc = .ok (.ireturn, 1)) (hr : rok q.2.2.2.1 xv = true) : Rn E d mi pc ls [.int xv] S = some (some (.int xv), S) :=
  R_end (stp_A hm hd (by simp only [stA, stK, stL, stS, stI, stU, una, stJ, stB, stH, stM, stC, stR, oe, hr, if_true]))
/-- a truth value is answered -/
def rzK (xv : Int32) (S : aSt) : Option aRs := if xv = 0 ∨ xv = 1 then some (some (.int xv), S) else none
theorem R_zret (hm : mtb[mi]? = some q) {xv : Int32} (hd : decode q.2.1 pc = .ok (.ireturn, 1)) (hr : q.2.2.2.1 = some .boolean) : Rn E d mi pc ls [.int xv] S = rzK xv S := by
  unfold rzK
  by_cases hz : xv = 0 ∨ xv = 1
  · rw [if_pos hz]
    exact R_iret hm hd (by rw [hr]; rcases hz with rfl | rfl <;> rfl)
  · rw [if_neg hz]
    have hk : rok (some .boolean) xv = false := by
      show (xv == 0 || xv == 1) = false
      simp only [Bool.or_eq_false_iff, beq_eq_false_iff_ne, ne_eq]
      exact ⟨fun z => hz (Or.inl z), fun z => hz (Or.inr z)⟩
    exact R_no (by cases E <;> (simp only [stp, hm, hd]; simp only [stA, stK, stL, stS, stI, stU, una, stJ, stB, stH, stM, stC, stR, stX, oe, hr, hk, if_true] <;> rfl))
theorem R_aret (hm : mtb[mi]? = some q) {h : Nat} (hd : decode q.2.1 pc = .ok (.areturn, 1)) (hr : (q.2.2.2.1).any isRT = true) : Rn E d mi pc ls [.ref h] S = some (some (.ref h), S) :=
  R_end (stp_A hm hd (by simp only [stA, stK, stL, stS, stI, stU, stJ, stB, stH, stM, stC, stR, oe, hr, if_true]))
theorem R_vret (hm : mtb[mi]? = some q) (hd : decode q.2.1 pc = .ok (.return_, 1)) (hr : q.2.2.2.1 = none) : Rn E d mi pc ls [] S = some (none, S) :=
  R_end (stp_A hm hd (by simp only [stA, stK, stL, stS, stI, stU, stJ, stB, stH, stM, stC, stR, oe, hr, if_true]))
theorem R_sld (hm : mtb[mi]? = some q) {jv : Int32} {len : Nat} {xs : Nat → Int32} (hd : decode q.2.1 pc = .ok (.iaload, 1)) (hs : S.1[1000]? = none) (hj : inb jv len = true) : Rn (some (len, xs)) d mi pc ls (.int jv :: .ref 1000 :: st) S = Rn (some (len, xs)) d mi (pc + 1) ls (.int (xs (ix jv)) :: st) S := by
  have h9 : rdI S 1000 jv = none := by unfold rdI; rw [hs]; rfl
  exact R_go (by simp only [stp, hm, hd]; rw [stA, stI_no (fun _ _ => rfl), stU_no (fun _ => rfl)]; simp only [stK, stL, stS, stJ, stB, stH, stM, stC, stR, stX, oe, h9, hj, nx, if_true, ite_self, and_self])
theorem R_slen (hm : mtb[mi]? = some q) {len : Nat} {xs : Nat → Int32} (hd : decode q.2.1 pc = .ok (.arraylength, 1)) : Rn (some (len, xs)) d mi pc ls (.ref 1000 :: st) S = Rn (some (len, xs)) d mi (pc + 1) ls (.int (Int32.ofNat len) :: st) S := by
  exact R_go (by simp only [stp, hm, hd]; rw [stA, stI_no (fun _ _ => rfl), stU_no (fun _ => rfl)]; simp only [stK, stL, stS, stJ, stB, stH, stM, stC, stR, stX, oe, nx, if_true, ite_self] <;> rfl)
theorem R_callS2 (hm : mtb[mi]? = some q) {kx jj nn mx : Nat} {e : Nat × Nat × Nat × Nat × Nat × Nat × Nat × Nat × Nat × Nat} {y : aMt} {as rest : List Value} {ls1 : aLo} (hd : decode q.2.1 pc = .ok (.invokestatic kx, 3)) (he : mthE q.2.2.2.2 kx = some e ∧ acpE q.2.2.2.2 kx = none ∧ matE q.2.2.2.2 kx = none ∧ (e.2.2.2.1 = 0 ∨ e.2.2.2.1 = 3)) (hj : e.2.2.1 = jj) (hn : e.2.2.2.2.1 = nn) (hy : mtb[jj]? = some y) (hx : y.2.2.1 = mx) (hs : splA nn [] st = some (as, rest)) (hl : (entA as).length ≤ mx ∧ rest.length ≤ 4) (h1 : ent mx as = ls1) :
    Rn E (d + 1) mi pc ls st S = clK (Rn E d jj 0 ls1 [] S) (fun vv St => Rn E (d + 1) mi (pc + 3) ls (vv.toList ++ rest) St) := by
  subst hj hn hx
  exact R_callS hm hd he hy hs hl h1
theorem R_callV2 (hm : mtb[mi]? = some q) {kx h jj nn mx ow : Nat} {e : Nat × Nat × Nat × Nat × Nat × Nat × Nat × Nat × Nat × Nat} {y : aMt} {as rest : List Value} {ls1 : aLo} (hd : decode q.2.1 pc = .ok (.invokevirtual kx, 3)) (he : mthE q.2.2.2.2 kx = some e ∧ e.2.2.2.1 = 1) (hj : e.2.2.1 = jj) (hn : e.2.2.2.2.1 = nn) (hy : mtb[jj]? = some y) (hx : y.2.2.1 = mx) (ho : y.2.2.2.2 = ow) (hs : splA nn [] st = some (as, .ref h :: rest)) (hl : (entA (.ref h :: as)).length ≤ mx ∧ rest.length ≤ 4) (h1 : ent mx (.ref h :: as) = ls1) :
    Rn E (d + 1) mi pc ls st S = clV S h ow (Rn E d jj 0 ls1 [] S) (fun vv St => Rn E (d + 1) mi (pc + 3) ls (vv.toList ++ rest) St) := by
  subst hj hn hx ho
  exact R_callV hm hd he hy hs hl h1
end Eqs
