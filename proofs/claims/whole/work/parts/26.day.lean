/-! THE TOWN CHANGES -/
def tnF (A : Tn) (kz jz : Nat) (xv : Int32) : Tn := (tN A, fun a b => if a = kz ∧ b = jz then xv else tF A a b, tC A, tX A)
def tnC (A : Tn) (iz : Nat) (xv : Int32) : Tn := (tN A, tF A, fun a => if a = iz then xv else tC A a, tX A)
theorem MTx_upd {s : Nat → Int32} {t iz : Nat} {tx : Tx} {xv : Int32} (h : MTx s t tx) (hi : iz < 51) : MTx (upd s iz xv) t tx := by
  obtain ⟨h1, h2, h3, h4⟩ := h
  refine ⟨?_, ?_, ?_, ?_⟩
  · rw [pk_un (by omega)]; exact h1
  · rw [pk_un (by omega)]; exact h2
  · rw [pk_un (by omega)]; exact h3
  · intro i w yv hg
    rw [pk_un (by omega), pk_un (by omega)]
    exact h4 i w yv hg
theorem MR_f {s : Nat → Int32} {A : Tn} {kz jz : Nat} {xv : Int32} (h : MR s A) (hn : tN A ≤ 8) (hk : kz < tN A) (hj : jz < 5) : MR (upd s (10 + 5 * kz + jz) xv) (tnF A kz jz xv) := by
  obtain ⟨h1, h2, h3, h4, h5, h6⟩ := h
  refine ⟨?_, ?_, ?_, ?_, ?_, ?_⟩
  · rw [pk_un (by omega)]; exact h1
  · intro a ha b hb
    show _ = if a = kz ∧ b = jz then xv else tF A a b
    by_cases hc : a = kz ∧ b = jz
    · rw [if_pos hc, hc.1, hc.2, pk_us]
    · rw [if_neg hc, pk_un (by omega)]; exact h2 a ha b hb
  · intro i hi hi2
    rw [pk_un (by omega)]; exact h3 i hi hi2
  · rw [pk_un (by omega)]; exact h4
  · rw [pk_un (by omega)]; exact h5
  · intro t tx ht
    exact MTx_upd (h6 t tx ht) (by omega)
theorem MR_c {s : Nat → Int32} {A : Tn} {iz : Nat} {xv : Int32} (h : MR s A) (hn : tN A ≤ 8) (hi : 2 ≤ iz ∧ (iz < 10 ∨ iz = 50)) : MR (upd s iz xv) (tnC A iz xv) := by
  obtain ⟨h1, h2, h3, h4, h5, h6⟩ := h
  refine ⟨?_, ?_, ?_, ?_, ?_, ?_⟩
  · rw [pk_un (by omega)]; exact h1
  · intro a ha b hb
    have ha : a < tN A := ha
    rw [pk_un (by omega)]; exact h2 a ha b hb
  · intro i hi hi2
    show _ = if i = iz then xv else tC A i
    by_cases hc : i = iz
    · rw [if_pos hc, hc, pk_us]
    · rw [if_neg hc, pk_un (by omega)]; exact h3 i hi hi2
  · show _ = if 50 = iz then xv else tC A 50
    by_cases hc : 50 = iz
    · rw [if_pos hc, hc, pk_us]
    · rw [if_neg hc, pk_un (by omega)]; exact h4
  · rw [pk_un (by omega)]; exact h5
  · intro t tx ht
    exact MTx_upd (h6 t tx ht) (by omega)
/-- one number drawn -/
def zN (zv : Int32) : Int32 := zv * nI 1103515245 + nI 12345
def zD (zv : Int32) : Int32 := (zv.toUInt32 >>> ((nI 8).toUInt32 &&& Int32.toUInt32 31)).toInt32
theorem zD_n (zv : Int32) : ∃ nz, nz < 2 ^ 24 ∧ zD zv = nI nz := by
  have h8 : ((nI 8).toUInt32 &&& Int32.toUInt32 31).toNat % 32 = 8 := by decide +kernel
  have hu : (zv.toUInt32 >>> ((nI 8).toUInt32 &&& Int32.toUInt32 31)).toNat < 2 ^ 24 := by
    rw [UInt32.toNat_shiftRight, h8, Nat.shiftRight_eq_div_pow]
    have := UInt32.toNat_lt zv.toUInt32
    omega
  refine ⟨_, hu, ?_⟩
  apply Int32.toInt_inj.mp
  rw [nI_toInt (by omega)]
  show (zv.toUInt32 >>> ((nI 8).toUInt32 &&& Int32.toUInt32 31)).toBitVec.toInt = _
  rw [BitVec.toInt_eq_toNat_of_lt (by show 2 * (zv.toUInt32 >>> ((nI 8).toUInt32 &&& Int32.toUInt32 31)).toNat < _; omega)]
  rfl
theorem cn_succ {pq : Nat → Bool} : ∀ (nz kz : Nat), cnF pq (nz + 1) kz = cnF pq nz kz + (if pq (kz + nz) = true then 1 else 0) := by
  intro nz
  induction nz with
  | zero => intro kz; simp only [cnF, Nat.add_zero, Nat.zero_add]
  | succ nz ih =>
    intro kz
    rw [show cnF pq (nz + 1 + 1) kz = (if pq kz = true then 1 else 0) + cnF pq (nz + 1) (kz + 1) from rfl, ih (kz + 1), show cnF pq (nz + 1) kz = (if pq kz = true then 1 else 0) + cnF pq nz (kz + 1) from rfl, show kz + 1 + nz = kz + (nz + 1) by omega]
    omega
theorem cn_s {pq : Nat → Bool} {nz : Nat} : cn pq (nz + 1) = cn pq nz + (if pq nz = true then 1 else 0) := by
  have := cn_succ (pq := pq) nz 0
  rw [Nat.zero_add] at this
  exact this
def spGl (A : Tn) : Nat := cn (fun kz => (spLk A kz).isSome) (tN A)
section Day
variable {E : aE} {d : Nat} {S : aSt} {σ : Nat → Nat → Int32} {A : Tn}
theorem k_sets {kz jz : Nat} {xv : Int32} (hk : kz < 8) (hj : jz < 5) : Rn E d 114 0 [some (.ref 93), some (.int (nI kz)), some (.int (nI jz)), some (.int xv)] [] (shp, σ) = some (none, (shp, su σ 94 (10 + 5 * kz + jz) xv)) := by
  simp (disch := omega) only [e114_0, e114_1, e114_4, e114_6, e114_7, e114_8, e114_9, e114_10, e114_11, e114_12, e114_13, e114_14, gM_0, a_94, inb_n, ix_n, if_true, ne_eq, Nat.reduceEqDiff, not_false_eq_true, vM, clK_s, tl_s, tl_n, clr_i, clr_n, clr_a, nI_add, s_94, pk_mul]
theorem k_changes {iz : Nat} {xv : Int32} (hk : iz < 3051) : Rn E d 111 0 [some (.ref 93), some (.int (nI iz)), some (.int xv), none] [] (shp, σ) = some (some (.int (σ 94 iz)), (shp, su σ 94 iz xv)) := by
  simp (disch := omega) only [e111_0, e111_1, e111_4, e111_5, e111_6, e111_7, e111_8, e111_11, e111_12, e111_13, e111_14, e111_15, gM_0, a_94, inb_n, ix_n, if_true, ne_eq, Nat.reduceEqDiff, not_false_eq_true, vM, clK_s, tl_s, tl_n, clr_i, clr_n, clr_a, nI_add, s_94]
theorem k_drawn {zv : Int32} (hz : σ 94 9 = zv) : Rn E d 117 0 [some (.ref 93)] [] (shp, σ) = some (some (.int (zD (zN zv))), (shp, su σ 94 9 (zN zv))) := by
  simp (disch := omega) only [e117_0, e117_1, e117_4, e117_6, e117_7, e117_10, e117_12, e117_13, e117_15, e117_16, e117_19, e117_20, e117_21, e117_22, e117_25, e117_27, e117_28, e117_30, e117_31, gM_0, a_94, inb_n, ix_n, if_true, ne_eq, Nat.reduceEqDiff, not_false_eq_true, vM, clK_s, tl_s, tl_n, clr_i, clr_n, clr_a, nI_add, s_94, hz, su_rf, pk_us, zN, zD]
theorem k_allLook_1 {w2 : Option Value} (hM : MR (σ 94) A) (hW : WFp A) : ∀ r kz (σ1 : Nat → Nat → Int32), kz + r = tN A → Fr [105] σ σ1 → (∀ jz, jz < kz → σ1 105 jz = nI 0) →
    ∃ σ2, Rn E d 147 2 [some (.ref 93), some (.int (nI kz)), w2] [] (shp, σ1) = Rn E d 147 27 [some (.ref 93), some (.int (nI 0)), w2] [] (shp, σ2) ∧ Fr [105] σ σ2 ∧ ∀ jz, jz < tN A → σ2 105 jz = nI 0 := by
  have h8 := hW.1
  intro r
  induction r with
  | zero =>
    intro kz σ1 hk hf hz
    have e0 : σ1 94 0 = nI (tN A) := by rw [hf 94 (by decide)]; exact hM.1
    have h1 : tN A ≤ kz := by omega
    exact ⟨σ1, by simp (disch := omega) only [e147_2, e147_3, e147_4, e147_7, e147_8, e147_9, e147_12, e147_13, e147_16, e147_17, e147_18, e147_19, e147_22, e147_25, e147_26, gM_0, a_94, inb_n, ix_n, if_true, ne_eq, Nat.reduceEqDiff, not_false_eq_true, vM, clK_s, tl_s, tl_n, clr_i, clr_n, clr_a, nI_add, e0, nI_leI, h1], hf, fun jz hj => hz jz (by omega)⟩
  | succ r ih =>
    intro kz σ1 hk hf hz
    have e0 : σ1 94 0 = nI (tN A) := by rw [hf 94 (by decide)]; exact hM.1
    have h1 : ¬ tN A ≤ kz := by omega
    obtain ⟨σ2, h2, h3, h4⟩ := ih (kz + 1) (su σ1 105 kz (nI 0)) (by omega) (hf.su (by decide)) (by
      intro jz hj
      rw [su_rf]
      by_cases hc : jz = kz
      · rw [hc, pk_us]
      · rw [pk_un (by omega)]; exact hz jz (by omega))
    refine ⟨σ2, ?_, h3, h4⟩
    rw [← h2]
    conv => lhs; rw [e147_2]
    simp (disch := omega) only [e147_3, e147_4, e147_7, e147_8, e147_9, e147_12, e147_13, e147_16, e147_17, e147_18, e147_19, e147_22, gM_0, a_94, inb_n, ix_n, if_true, ne_eq, Nat.reduceEqDiff, not_false_eq_true, vM, clK_s, tl_s, tl_n, clr_i, clr_n, clr_a, nI_add, e0, nI_leI, h1, if_false, gM_12, s_105]
end Day
