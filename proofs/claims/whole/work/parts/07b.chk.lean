/-! THE TABLES AGAINST THE WORDS: by places (wip/whole/gen3.py) -/
def isRT : FieldType → Bool
  | .object _ => true
  | .array _ => true
  | _ => false
def okT : FieldType → Bool
  | .object _ => true
  | .array _ => true
  | .int => true
  | .boolean => true
  | _ => false
def tyL : List (Nat → FieldType) := [tyX1, tyX2, tyX3, tyX4, tyX5, tyX6, tyX7, tyX8]
def fty (ci k : Nat) : FieldType := (tyL.getD ci (fun _ => .int)) k
theorem find_ok {α : Type} {l : List α} {f : α → Bool} {e : α} (h : l.find? f = some e) : e ∈ l ∧ f e = true := ⟨List.mem_of_find?_eq_some h, List.find?_some h⟩
def gtb : List Cond := lw_tbl.filter goodWord
theorem gtb_in {i : Nat} {w : Cond} (h : lw_tbl[i]? = some w) (hg : goodWord w = true) : w ∈ gtb := List.mem_filter.mpr ⟨List.mem_of_getElem? h, hg⟩
theorem chk_ty : (List.range 8).all (fun ci => (List.range (vwCl.getD ci ("", fun _ => ("", "", "", false), 0)).2.2).all (fun j => okT (fty ci j))) = true := by decide +kernel
theorem mem_pl {ws : List Cond} (ps : List Nat) (h : ws.map some = ps.map (fun i => lw_tbl[i]?)) (hg : ws.all goodWord = true) : ∀ w ∈ ws, w ∈ gtb := by
  intro w hw
  have h1 : some w ∈ ps.map (fun i => lw_tbl[i]?) := by rw [← h]; exact List.mem_map.mpr ⟨w, hw, rfl⟩
  obtain ⟨i, -, hi⟩ := List.mem_map.mp h1
  exact gtb_in hi (List.all_eq_true.mp hg w hw)
theorem inU_0 : ∀ w ∈ u_ws RX1 TX1 2, w ∈ gtb := mem_pl [115, 117] (by decide +kernel) (by decide +kernel)
theorem inU_1 : ∀ w ∈ u_ws RX2 TX2 8, w ∈ gtb := mem_pl [135, 137, 139, 141, 143, 145, 147, 149] (by decide +kernel) (by decide +kernel)
theorem inU_2 : ∀ w ∈ u_ws RX3 TX3 3, w ∈ gtb := mem_pl [246, 248, 250] (by decide +kernel) (by decide +kernel)
theorem inU_3 : ∀ w ∈ u_ws RX4 TX4 5, w ∈ gtb := mem_pl [270, 272, 274, 276, 278] (by decide +kernel) (by decide +kernel)
theorem inU_4 : ∀ w ∈ u_ws RX5 TX5 4, w ∈ gtb := mem_pl [102, 104, 106, 108] (by decide +kernel) (by decide +kernel)
theorem inU_5 : ∀ w ∈ u_ws RX6 TX6 18, w ∈ gtb := mem_pl [194, 196, 198, 200, 202, 204, 206, 208, 210, 212, 214, 216, 218, 220, 222, 224, 226, 228] (by decide +kernel) (by decide +kernel)
theorem inU_6 : ∀ w ∈ u_ws RX7 TX7 11, w ∈ gtb := mem_pl [292, 294, 296, 298, 300, 302, 304, 306, 308, 310, 312] (by decide +kernel) (by decide +kernel)
theorem inU_7 : ∀ w ∈ u_ws RX8 TX8 32, w ∈ gtb := mem_pl [900, 902, 904, 906, 908, 910, 912, 914, 916, 918, 920, 922, 924, 926, 928, 930, 932, 934, 936, 938, 940, 942, 944, 946, 948, 950, 952, 954, 956, 958, 960, 962] (by decide +kernel) (by decide +kernel)
theorem cls_ok {ci : Nat} {r : vw_C} (h : vwCl[ci]? = some r) : (∀ w ∈ u_ws r.1 r.2.1 r.2.2, w ∈ gtb) ∧ (∀ k, k < r.2.2 → parseFieldDescriptor (r.2.1 k).2.2.1 = some (fty ci k)) ∧ (∀ a, a < r.2.2 → ∀ b, b < r.2.2 → a ≠ b → (r.2.1 a).2.1 ≠ (r.2.1 b).2.1) ∧ ci < 8 := by
  match ci, h with
  | 0, h => cases h; exact ⟨inU_0, tyX1_ok, nmX1, by decide⟩
  | 1, h => cases h; exact ⟨inU_1, tyX2_ok, nmX2, by decide⟩
  | 2, h => cases h; exact ⟨inU_2, tyX3_ok, nmX3, by decide⟩
  | 3, h => cases h; exact ⟨inU_3, tyX4_ok, nmX4, by decide⟩
  | 4, h => cases h; exact ⟨inU_4, tyX5_ok, nmX5, by decide⟩
  | 5, h => cases h; exact ⟨inU_5, tyX6_ok, nmX6, by decide⟩
  | 6, h => cases h; exact ⟨inU_6, tyX7_ok, nmX7, by decide⟩
  | 7, h => cases h; exact ⟨inU_7, tyX8_ok, nmX8, by decide⟩
  | _ + 8, h => cases h
theorem chk_fld : fldT.all (fun e => match vwCl[e.2.2.1]? with
  | some r => decide (e.2.2.2.1 < r.2.2) && decide (lw_tbl[e.2.2.2.2]? = some (.fieldLink (ownN e.1) e.2.1 (r.2.1 e.2.2.2.1).1 (r.2.1 e.2.2.2.1).2.1 (r.2.1 e.2.2.2.1).2.2.1)) && goodWord (.fieldLink (ownN e.1) e.2.1 (r.2.1 e.2.2.2.1).1 (r.2.1 e.2.2.2.1).2.1 (r.2.1 e.2.2.2.1).2.2.1) && decide (r.1 = (r.2.1 e.2.2.2.1).1) && ((r.2.1 e.2.2.2.1).2.2.2 == isRT (fty e.2.2.1 e.2.2.2.1))
  | none => false) = true := by decide +kernel
theorem fld_ok {own x : Nat} {e : Nat × Nat × Nat × Nat × Nat} (h : fldE own x = some e) : ∃ r, vwCl[e.2.2.1]? = some r ∧ e.2.2.2.1 < r.2.2 ∧ Cond.fieldLink (ownN own) x (r.2.1 e.2.2.2.1).1 (r.2.1 e.2.2.2.1).2.1 (r.2.1 e.2.2.2.1).2.2.1 ∈ gtb ∧ r.1 = (r.2.1 e.2.2.2.1).1 ∧ (r.2.1 e.2.2.2.1).2.2.2 = isRT (fty e.2.2.1 e.2.2.2.1) := by
  obtain ⟨h1, h2⟩ := find_ok h
  have h3 := List.all_eq_true.mp chk_fld e h1
  simp only [Bool.and_eq_true, beq_iff_eq] at h2
  cases hr : vwCl[e.2.2.1]? with
  | none => rw [hr] at h3; cases h3
  | some r =>
    rw [hr] at h3
    simp only [Bool.and_eq_true, decide_eq_true_eq, beq_iff_eq] at h3
    obtain ⟨⟨⟨⟨a1, a2⟩, a3⟩, a4⟩, a5⟩ := h3
    refine ⟨r, rfl, a1, ?_, a4, a5⟩
    rw [← h2.1, ← h2.2]
    exact gtb_in a2 a3
theorem chk_sfd : sfdT.all (fun e => decide (lw_tbl[e.2.2.2]? = some (.fieldLink (ownN e.1) e.2.1 RJ0 (if e.2.2.1 = 0 then "value" else "coder") (if e.2.2.1 = 0 then "[B" else "B"))) && goodWord (.fieldLink (ownN e.1) e.2.1 RJ0 (if e.2.2.1 = 0 then "value" else "coder") (if e.2.2.1 = 0 then "[B" else "B"))) = true := by decide +kernel
theorem sfd_ok {own x : Nat} {e : Nat × Nat × Nat × Nat} (h : sfdE own x = some e) : Cond.fieldLink (ownN own) x RJ0 (if e.2.2.1 = 0 then "value" else "coder") (if e.2.2.1 = 0 then "[B" else "B") ∈ gtb := by
  obtain ⟨h1, h2⟩ := find_ok h
  have h3 := List.all_eq_true.mp chk_sfd e h1
  simp only [Bool.and_eq_true, decide_eq_true_eq, beq_iff_eq] at h2 h3
  rw [← h2.1, ← h2.2]
  exact gtb_in h3.1 h3.2
def gsC (k : Nat) : String := if k = 0 then RX0 else if k = 1 then RJ0 else RJ3
def gsN (k : Nat) : String := if k = 0 then "ABOVE" else if k = 1 then "COMPACT_STRINGS" else "SIOOBE_FORMATTER"
def gsD (k : Nat) : String := if k = 0 then "[I" else if k = 1 then "Z" else "Ljava/util/function/BiFunction;"
theorem chk_gst : gstT.all (fun e => decide (lw_tbl[e.2.2.2]? = some (.fieldLink (ownN e.1) e.2.1 (gsC e.2.2.1) (gsN e.2.2.1) (gsD e.2.2.1))) && goodWord (.fieldLink (ownN e.1) e.2.1 (gsC e.2.2.1) (gsN e.2.2.1) (gsD e.2.2.1))) = true := by decide +kernel
theorem gst_ok {own x : Nat} {e : Nat × Nat × Nat × Nat} (h : gstE own x = some e) : Cond.fieldLink (ownN own) x (gsC e.2.2.1) (gsN e.2.2.1) (gsD e.2.2.1) ∈ gtb := by
  obtain ⟨h1, h2⟩ := find_ok h
  have h3 := List.all_eq_true.mp chk_gst e h1
  simp only [Bool.and_eq_true, decide_eq_true_eq, beq_iff_eq] at h2 h3
  rw [← h2.1, ← h2.2]
  exact gtb_in h3.1 h3.2
def insP : List Nat := [79, 121, 235, 253, 86, 154, 71, 863]
def iniP : List Nat := [54, 56, 58, 59, 55, 57, 53, 60]
theorem chk_new : newT.all (fun e => match vwCl[e.2.2.1]? with
  | some r => decide (lw_tbl[e.2.2.2]? = some (.classLink (ownN e.1) e.2.1 r.1)) && goodWord (.classLink (ownN e.1) e.2.1 r.1) && decide (lw_tbl[insP.getD e.2.2.1 0]? = some (.instantiable r.1 r.2.2)) && goodWord (.instantiable r.1 r.2.2) && decide (lw_tbl[iniP.getD e.2.2.1 0]? = some (.initialized r.1)) && goodWord (.initialized r.1)
  | none => false) = true := by decide +kernel
theorem new_ok {own x : Nat} {e : Nat × Nat × Nat × Nat} (h : newE own x = some e) : ∃ r, vwCl[e.2.2.1]? = some r ∧ Cond.classLink (ownN own) x r.1 ∈ gtb ∧ Cond.instantiable r.1 r.2.2 ∈ gtb ∧ Cond.initialized r.1 ∈ gtb := by
  obtain ⟨h1, h2⟩ := find_ok h
  have h3 := List.all_eq_true.mp chk_new e h1
  simp only [Bool.and_eq_true, beq_iff_eq] at h2
  cases hr : vwCl[e.2.2.1]? with
  | none => rw [hr] at h3; cases h3
  | some r =>
    rw [hr] at h3
    simp only [Bool.and_eq_true, decide_eq_true_eq, beq_iff_eq] at h3
    obtain ⟨⟨⟨⟨⟨a1, a2⟩, a3⟩, a4⟩, a5⟩, a6⟩ := h3
    refine ⟨r, rfl, ?_, gtb_in a3 a4, gtb_in a5 a6⟩
    rw [← h2.1, ← h2.2]
    exact gtb_in a1 a2
theorem chk_anw : anwT.all (fun e => match vwCl[e.2.2.1]? with
  | some r => decide (lw_tbl[e.2.2.2]? = some (.classLink (ownN e.1) e.2.1 r.1)) && goodWord (.classLink (ownN e.1) e.2.1 r.1)
  | none => false) = true := by decide +kernel
theorem anw_ok {own x : Nat} {e : Nat × Nat × Nat × Nat} (h : anwE own x = some e) : ∃ r, vwCl[e.2.2.1]? = some r ∧ Cond.classLink (ownN own) x r.1 ∈ gtb := by
  obtain ⟨h1, h2⟩ := find_ok h
  have h3 := List.all_eq_true.mp chk_anw e h1
  simp only [Bool.and_eq_true, beq_iff_eq] at h2
  cases hr : vwCl[e.2.2.1]? with
  | none => rw [hr] at h3; cases h3
  | some r =>
    rw [hr] at h3
    simp only [Bool.and_eq_true, decide_eq_true_eq] at h3
    refine ⟨r, rfl, ?_⟩
    rw [← h2.1, ← h2.2]
    exact gtb_in h3.1 h3.2
theorem chk_obj : objT.all (fun e => decide (lw_tbl[e.2.2]? = some (.methodLink (ownN e.1) e.2.1 Lib.objectInit)) && goodWord (.methodLink (ownN e.1) e.2.1 Lib.objectInit)) = true := by decide +kernel
theorem obj_in : Cond.instanceMethod Lib.objectInit ∈ gtb := gtb_in (i := 76) (by decide +kernel) (by decide +kernel)
theorem obj_co : Cond.code Lib.objectInit ⟨#[0xb1]⟩ 1 none ∈ gtb := gtb_in (i := 77) (by decide +kernel) (by decide +kernel)
theorem obj_ok {own x : Nat} {e : Nat × Nat × Nat} (h : objE own x = some e) : Cond.methodLink (ownN own) x Lib.objectInit ∈ gtb := by
  obtain ⟨h1, h2⟩ := find_ok h
  have h3 := List.all_eq_true.mp chk_obj e h1
  simp only [Bool.and_eq_true, decide_eq_true_eq, beq_iff_eq] at h2 h3
  rw [← h2.1, ← h2.2]
  exact gtb_in h3.1 h3.2
theorem chk_acp : acpT.all (fun e => decide (lw_tbl[e.2.2]? = some (.methodLink (ownN e.1) e.2.1 arraycopyName)) && goodWord (.methodLink (ownN e.1) e.2.1 arraycopyName)) = true := by decide +kernel
theorem acp_na : Cond.native arraycopyName ∈ gtb := gtb_in (i := 521) (by decide +kernel) (by decide +kernel)
theorem acp_st : Cond.static arraycopyName ∈ gtb := gtb_in (i := 520) (by decide +kernel) (by decide +kernel)
theorem acp_in : Cond.initialized "java/lang/System" ∈ gtb := gtb_in (i := 64) (by decide +kernel) (by decide +kernel)
theorem acp_ok {own x : Nat} {e : Nat × Nat × Nat} (h : acpE own x = some e) : Cond.methodLink (ownN own) x arraycopyName ∈ gtb := by
  obtain ⟨h1, h2⟩ := find_ok h
  have h3 := List.all_eq_true.mp chk_acp e h1
  simp only [Bool.and_eq_true, decide_eq_true_eq, beq_iff_eq] at h2 h3
  rw [← h2.1, ← h2.2]
  exact gtb_in h3.1 h3.2
theorem arr_I : Cond.arrayClass .int ∈ gtb := gtb_in (i := 111) (by decide +kernel) (by decide +kernel)
theorem arr_B : Cond.arrayClass .byte ∈ gtb := gtb_in (i := 152) (by decide +kernel) (by decide +kernel)
def matN (k : Nat) : MethodName := if k = 0 then Lib.Math.max.name else if k = 1 then Lib.Math.min.name else Lib.Math.abs.name
theorem chk_mat : matT.all (fun e => decide (lw_tbl[e.2.2.2]? = some (.methodLink (ownN e.1) e.2.1 (matN e.2.2.1))) && goodWord (.methodLink (ownN e.1) e.2.1 (matN e.2.2.1)) && decide (e.2.2.1 < 3)) = true := by decide +kernel
theorem mat_ok {own x : Nat} {e : Nat × Nat × Nat × Nat} (h : matE own x = some e) : Cond.methodLink (ownN own) x (matN e.2.2.1) ∈ gtb ∧ e.2.2.1 < 3 := by
  obtain ⟨h1, h2⟩ := find_ok h
  have h3 := List.all_eq_true.mp chk_mat e h1
  simp only [Bool.and_eq_true, decide_eq_true_eq, beq_iff_eq] at h2 h3
  rw [← h2.1, ← h2.2]
  exact ⟨gtb_in h3.1.1 h3.1.2, h3.2⟩
theorem mat_in : Cond.initialized "java/lang/Math" ∈ gtb := gtb_in (i := 61) (by decide +kernel) (by decide +kernel)
theorem mat_s0 : Cond.static Lib.Math.max.name ∈ gtb := gtb_in (i := 365) (by decide +kernel) (by decide +kernel)
theorem mat_c0 : Cond.code Lib.Math.max.name Lib.Math.max.code 2 (some .int) ∈ gtb := gtb_in (i := 366) (by decide +kernel) (by decide +kernel)
theorem mat_s1 : Cond.static Lib.Math.min.name ∈ gtb := gtb_in (i := 382) (by decide +kernel) (by decide +kernel)
theorem mat_c1 : Cond.code Lib.Math.min.name Lib.Math.min.code 2 (some .int) ∈ gtb := gtb_in (i := 383) (by decide +kernel) (by decide +kernel)
theorem mat_s2 : Cond.static Lib.Math.abs.name ∈ gtb := gtb_in (i := 372) (by decide +kernel) (by decide +kernel)
theorem mat_c2 : Cond.code Lib.Math.abs.name Lib.Math.abs.code 1 (some .int) ∈ gtb := gtb_in (i := 373) (by decide +kernel) (by decide +kernel)
/-- a row of calls against the words -/
def chkM (e : Nat × Nat × Nat × Nat × Nat × Nat × Nat × Nat × Nat × Nat) : Bool := match mtb[e.2.2.1]? with
  | some y =>
    decide (lw_tbl[e.2.2.2.2.2.1]? = some (if e.2.2.2.1 = 3 ∨ e.2.2.2.1 = 4 then .methodLinkNest (ownN e.1) e.2.1 y.1 RX7 else .methodLink (ownN e.1) e.2.1 y.1)) &&
    ((e.2.2.2.1 == 3) || (e.2.2.2.1 == 4) || goodWord (.methodLink (ownN e.1) e.2.1 y.1)) &&
    (if e.2.2.2.1 = 0 ∨ e.2.2.2.1 = 3 then decide (lw_tbl[e.2.2.2.2.2.2.1]? = some (.static y.1)) && goodWord (.static y.1) else decide (lw_tbl[e.2.2.2.2.2.2.1]? = some (.instanceMethod y.1)) && goodWord (.instanceMethod y.1)) &&
    (!(e.2.2.2.1 == 1) || (decide (lw_tbl[e.2.2.2.2.2.2.2.1]? = some (.selects y.1.cls y.1 y.1)) && goodWord (.selects y.1.cls y.1 y.1))) &&
    decide (lw_tbl[e.2.2.2.2.2.2.2.2.1]? = some (.initialized y.1.cls)) && goodWord (.initialized y.1.cls) &&
    decide (y.1.cls ≠ "java/lang/invoke/MethodHandle") && decide (y.1.cls ≠ "java/lang/invoke/VarHandle") && plainName y.1.cls && decide (y.2.2.1 ≤ 40) &&
    decide ((parseMethodDescriptor y.1.desc).map (fun d => d.parameters.length) = some e.2.2.2.2.1) &&
    ((!(e.2.2.2.1 == 2) && !(e.2.2.2.1 == 4)) || (decide (y.1.name = "<init>") && decide (y.2.2.2.1 = none)))
  | none => false
theorem all_td {α : Type} {l : List α} {f : α → Bool} (n : Nat) (h1 : (l.take n).all f = true) (h2 : (l.drop n).all f = true) : l.all f = true := by
  rw [← List.take_append_drop n l, List.all_append, h1, h2]; rfl
theorem chk_mth_0 : ((mthT).take 60).all chkM = true := by decide +kernel
theorem chk_mth_1 : (((mthT).drop 60).take 60).all chkM = true := by decide +kernel
theorem chk_mth_2 : ((((mthT).drop 60).drop 60).take 60).all chkM = true := by decide +kernel
theorem chk_mth_3 : ((((mthT).drop 60).drop 60).drop 60).all chkM = true := by decide +kernel
theorem chk_mth : mthT.all chkM = true := all_td 60 chk_mth_0 (all_td 60 chk_mth_1 (all_td 60 chk_mth_2 (chk_mth_3)))
def codP : List Nat := [405, 395, 386, 398, 82, 377, 380, 124, 592, 604, 608, 612, 618, 758, 672, 765, 762, 676, 680, 688, 684, 696, 238, 787, 824, 815, 256, 89, 692, 157, 518, 343, 329, 335, 424, 557, 510, 450, 446, 455, 359, 363, 355, 370, 351, 347, 484, 488, 497, 502, 74, 318, 339, 402, 412, 416, 420, 428, 432, 437, 441, 461, 465, 470, 475, 480, 506, 514, 525, 529, 533, 541, 545, 561, 565, 569, 579, 584, 588, 596, 600, 774, 778, 782, 791, 802, 807, 811, 820, 829, 837, 841, 845, 849, 853, 857, 861, 321, 492, 324, 549, 537, 553, 574, 795, 833, 866, 972, 1106, 1060, 1038, 1087, 1050, 996, 1010, 1018, 1307, 1122, 1078, 975, 1000, 992, 988, 1006, 979, 968, 1067, 1071, 1035, 1031, 1042, 1027, 1023, 1063, 1014, 1075, 1083, 1091, 1095, 1099, 1103, 1111, 1117, 1127, 1131, 1135, 1139, 1155, 1151, 1147, 1143, 1164, 1159, 1180, 1184, 1168, 1172, 1176, 1188, 1192, 1199, 1204, 1196, 1212, 1208, 1216, 1220, 1224, 1228, 1232, 1248, 1254, 1244, 1299, 1264, 1260, 1295, 1292, 1268, 1272, 1276, 1280, 1284, 1288, 1240, 1236, 1303, 1046, 1311, 1057, 1054, 1318, 1315, 1324, 1332, 1336, 1344, 1340, 1348, 1355, 1352, 1359, 1363, 1367, 1371, 1380, 1375, 1384, 1388, 1392, 389, 622, 632, 703, 707, 626, 636, 642, 639, 714, 711, 719, 647, 0]
theorem cod_0 : lw_tbl[405]? = some (.code yX0_isUnder cX0_isUnder 4 (some .boolean)) := by decide +kernel
theorem cod_1 : lw_tbl[395]? = some (.code yX0_growth cX0_growth 3 (some .int)) := by decide +kernel
theorem cod_2 : lw_tbl[386]? = some (.code yX0_pull cX0_pull 2 (some .int)) := by decide +kernel
theorem cod_3 : lw_tbl[398]? = some (.code yX0_worth cX0_worth 2 (some .int)) := by decide +kernel
theorem cod_4 : lw_tbl[82]? = some (.code yX1_init cX1_init 2 none) := by decide +kernel
theorem cod_5 : lw_tbl[377]? = some (.code yX1_value cX1_value 9 (some .int)) := by decide +kernel
theorem cod_6 : lw_tbl[380]? = some (.code yX1_joined cX1_joined 3 (some .int)) := by decide +kernel
theorem cod_7 : lw_tbl[124]? = some (.code yX2_init cX2_init 1 none) := by decide +kernel
theorem cod_8 : lw_tbl[592]? = some (.code yX2_takes cX2_takes 3 none) := by decide +kernel
theorem cod_9 : lw_tbl[604]? = some (.code yX2_parse cX2_parse 3 (some .int)) := by decide +kernel
theorem cod_10 : lw_tbl[608]? = some (.code yX2_next cX2_next 4 none) := by decide +kernel
theorem cod_11 : lw_tbl[612]? = some (.code yX2_sortAt cX2_sortAt 3 (some .int)) := by decide +kernel
theorem cod_12 : lw_tbl[618]? = some (.code yX2_isWord cX2_isWord 4 (some .boolean)) := by decide +kernel
theorem cod_13 : lw_tbl[758]? = some (.code yX2_isSign cX2_isSign 2 (some .boolean)) := by decide +kernel
theorem cod_14 : lw_tbl[672]? = some (.code yX2_fails cX2_fails 1 none) := by decide +kernel
theorem cod_15 : lw_tbl[765]? = some (.code yX2_signsOf cX2_signsOf 1 (some (.object "java/lang/String"))) := by decide +kernel
theorem cod_16 : lw_tbl[762]? = some (.code yX2_isSignOf cX2_isSignOf 2 (some .boolean)) := by decide +kernel
theorem cod_17 : lw_tbl[676]? = some (.code yX2_level cX2_level 6 none) := by decide +kernel
theorem cod_18 : lw_tbl[680]? = some (.code yX2_piece cX2_piece 2 none) := by decide +kernel
theorem cod_19 : lw_tbl[688]? = some (.code yX2_leaf cX2_leaf 3 none) := by decide +kernel
theorem cod_20 : lw_tbl[684]? = some (.code yX2_number cX2_number 3 (some .int)) := by decide +kernel
theorem cod_21 : lw_tbl[696]? = some (.code yX2_nameOf cX2_nameOf 3 (some .int)) := by decide +kernel
theorem cod_22 : lw_tbl[238]? = some (.code yX3_init cX3_init 1 none) := by decide +kernel
theorem cod_23 : lw_tbl[787]? = some (.code yX3_clears cX3_clears 4 none) := by decide +kernel
theorem cod_24 : lw_tbl[824]? = some (.code yX3_takesAfter cX3_takesAfter 2 none) := by decide +kernel
theorem cod_25 : lw_tbl[815]? = some (.code yX3_hasPart cX3_hasPart 3 (some .boolean)) := by decide +kernel
theorem cod_26 : lw_tbl[256]? = some (.code yX4_init cX4_init 1 none) := by decide +kernel
theorem cod_27 : lw_tbl[89]? = some (.code yX5_init cX5_init 1 none) := by decide +kernel
theorem cod_28 : lw_tbl[692]? = some (.code yX5_adds cX5_adds 2 none) := by decide +kernel
theorem cod_29 : lw_tbl[157]? = some (.code yX6_init cX6_init 3 none) := by decide +kernel
theorem cod_30 : lw_tbl[518]? = some (.code yX6_takesAfter cX6_takesAfter 2 none) := by decide +kernel
theorem cod_31 : lw_tbl[343]? = some (.code yX6_has cX6_has 2 (some .boolean)) := by decide +kernel
theorem cod_32 : lw_tbl[329]? = some (.code yX6_isFree cX6_isFree 2 (some .boolean)) := by decide +kernel
theorem cod_33 : lw_tbl[335]? = some (.code yX6_comes cX6_comes 7 (some .int)) := by decide +kernel
theorem cod_34 : lw_tbl[424]? = some (.code yX6_settle cX6_settle 3 none) := by decide +kernel
theorem cod_35 : lw_tbl[557]? = some (.code yX6_supposes cX6_supposes 4 none) := by decide +kernel
theorem cod_36 : lw_tbl[510]? = some (.code yX6_sizesTogether cX6_sizesTogether 3 (some .int)) := by decide +kernel
theorem cod_37 : lw_tbl[450]? = some (.code yX6_draw cX6_draw 1 (some .int)) := by decide +kernel
theorem cod_38 : lw_tbl[446]? = some (.code yX6_drawsOne cX6_drawsOne 6 (some .boolean)) := by decide +kernel
theorem cod_39 : lw_tbl[455]? = some (.code yX6_freeFrom cX6_freeFrom 4 (some .int)) := by decide +kernel
theorem cod_40 : lw_tbl[359]? = some (.code yX6_seenBy cX6_seenBy 4 (some .int)) := by decide +kernel
theorem cod_41 : lw_tbl[363]? = some (.code yX6_seenAlong cX6_seenAlong 9 (some .int)) := by decide +kernel
theorem cod_42 : lw_tbl[355]? = some (.code yX6_lookOf cX6_lookOf 7 (some .int)) := by decide +kernel
theorem cod_43 : lw_tbl[370]? = some (.code yX6_pullOn cX6_pullOn 8 (some .int)) := by decide +kernel
theorem cod_44 : lw_tbl[351]? = some (.code yX6_lookAll cX6_lookAll 3 none) := by decide +kernel
theorem cod_45 : lw_tbl[347]? = some (.code yX6_eyesOn cX6_eyesOn 2 (some .int)) := by decide +kernel
theorem cod_46 : lw_tbl[484]? = some (.code yX6_live cX6_live 3 none) := by decide +kernel
theorem cod_47 : lw_tbl[488]? = some (.code yX6_growAll cX6_growAll 5 none) := by decide +kernel
theorem cod_48 : lw_tbl[497]? = some (.code yX6_wander cX6_wander 4 none) := by decide +kernel
theorem cod_49 : lw_tbl[502]? = some (.code yX6_clamour cX6_clamour 3 none) := by decide +kernel
theorem cod_50 : lw_tbl[74]? = some (.code yX7_init cX7_init 2 none) := by decide +kernel
theorem cod_51 : lw_tbl[318]? = some (.code yX7_one cX7_one 7 (some .int)) := by decide +kernel
theorem cod_52 : lw_tbl[339]? = some (.code yX7_told cX7_told 3 (some .int)) := by decide +kernel
theorem cod_53 : lw_tbl[402]? = some (.code yX7_as cX7_as 3 (some .int)) := by decide +kernel
theorem cod_54 : lw_tbl[412]? = some (.code yX7_turns cX7_turns 4 (some .int)) := by decide +kernel
theorem cod_55 : lw_tbl[416]? = some (.code yX7_set cX7_set 6 (some .int)) := by decide +kernel
theorem cod_56 : lw_tbl[420]? = some (.code yX7_moves cX7_moves 4 (some .int)) := by decide +kernel
theorem cod_57 : lw_tbl[428]? = some (.code yX7_screen cX7_screen 4 (some .int)) := by decide +kernel
theorem cod_58 : lw_tbl[432]? = some (.code yX7_at cX7_at 2 (some .int)) := by decide +kernel
theorem cod_59 : lw_tbl[437]? = some (.code yX7_rule cX7_rule 4 (some .int)) := by decide +kernel
theorem cod_60 : lw_tbl[441]? = some (.code yX7_deal cX7_deal 4 (some .int)) := by decide +kernel
theorem cod_61 : lw_tbl[461]? = some (.code yX7_seed cX7_seed 3 (some .int)) := by decide +kernel
theorem cod_62 : lw_tbl[465]? = some (.code yX7_looks cX7_looks 3 (some .int)) := by decide +kernel
theorem cod_63 : lw_tbl[470]? = some (.code yX7_eyes cX7_eyes 2 (some .int)) := by decide +kernel
theorem cod_64 : lw_tbl[475]? = some (.code yX7_sees cX7_sees 2 (some .int)) := by decide +kernel
theorem cod_65 : lw_tbl[480]? = some (.code yX7_days cX7_days 3 (some .int)) := by decide +kernel
theorem cod_66 : lw_tbl[506]? = some (.code yX7_town cX7_town 2 (some .int)) := by decide +kernel
theorem cod_67 : lw_tbl[514]? = some (.code yX7_curtain cX7_curtain 7 (some .int)) := by decide +kernel
theorem cod_68 : lw_tbl[525]? = some (.code yX7_seat cX7_seat 7 (some .int)) := by decide +kernel
theorem cod_69 : lw_tbl[529]? = some (.code yX7_behind cX7_behind 3 (some .int)) := by decide +kernel
theorem cod_70 : lw_tbl[533]? = some (.code yX7_vanishes cX7_vanishes 2 (some .int)) := by decide +kernel
theorem cod_71 : lw_tbl[541]? = some (.code yX7_bumps cX7_bumps 2 (some .int)) := by decide +kernel
theorem cod_72 : lw_tbl[545]? = some (.code yX7_loud cX7_loud 4 (some .int)) := by decide +kernel
theorem cod_73 : lw_tbl[561]? = some (.code yX7_loved cX7_loved 4 (some .int)) := by decide +kernel
theorem cod_74 : lw_tbl[565]? = some (.code yX7_becomes cX7_becomes 4 (some .int)) := by decide +kernel
theorem cod_75 : lw_tbl[569]? = some (.code yX7_like cX7_like 5 (some .int)) := by decide +kernel
theorem cod_76 : lw_tbl[579]? = some (.code yX7_fee cX7_fee 2 (some .int)) := by decide +kernel
theorem cod_77 : lw_tbl[584]? = some (.code yX7_fine cX7_fine 3 (some .int)) := by decide +kernel
theorem cod_78 : lw_tbl[588]? = some (.code yX7_feed cX7_feed 4 (some .int)) := by decide +kernel
theorem cod_79 : lw_tbl[596]? = some (.code yX7_trim cX7_trim 2 (some .int)) := by decide +kernel
theorem cod_80 : lw_tbl[600]? = some (.code yX7_text cX7_text 4 (some .int)) := by decide +kernel
theorem cod_81 : lw_tbl[774]? = some (.code yX7_textTold cX7_textTold 3 (some .int)) := by decide +kernel
theorem cod_82 : lw_tbl[778]? = some (.code yX7_why cX7_why 2 (some .int)) := by decide +kernel
theorem cod_83 : lw_tbl[782]? = some (.code yX7_sheet cX7_sheet 5 (some .int)) := by decide +kernel
theorem cod_84 : lw_tbl[791]? = some (.code yX7_mark cX7_mark 6 (some .int)) := by decide +kernel
theorem cod_85 : lw_tbl[802]? = some (.code yX7_pour cX7_pour 7 (some .int)) := by decide +kernel
theorem cod_86 : lw_tbl[807]? = some (.code yX7_reads cX7_reads 6 (some .int)) := by decide +kernel
theorem cod_87 : lw_tbl[811]? = some (.code yX7_copy cX7_copy 8 (some .int)) := by decide +kernel
theorem cod_88 : lw_tbl[820]? = some (.code yX7_lay cX7_lay 6 (some .int)) := by decide +kernel
theorem cod_89 : lw_tbl[829]? = some (.code yX7_ask cX7_ask 5 (some .int)) := by decide +kernel
theorem cod_90 : lw_tbl[837]? = some (.code yX7_item cX7_item 5 (some .int)) := by decide +kernel
theorem cod_91 : lw_tbl[841]? = some (.code yX7_rest cX7_rest 4 (some .int)) := by decide +kernel
theorem cod_92 : lw_tbl[845]? = some (.code yX7_tell cX7_tell 2 (some .int)) := by decide +kernel
theorem cod_93 : lw_tbl[849]? = some (.code yX7_check cX7_check 6 (some .int)) := by decide +kernel
theorem cod_94 : lw_tbl[853]? = some (.code yX7_keep cX7_keep 1 (some .int)) := by decide +kernel
theorem cod_95 : lw_tbl[857]? = some (.code yX7_back cX7_back 1 (some .int)) := by decide +kernel
theorem cod_96 : lw_tbl[861]? = some (.code yX7_count cX7_count 2 (some .int)) := by decide +kernel
theorem cod_97 : lw_tbl[321]? = some (.code yX7_isWithin cX7_isWithin 3 (some .boolean)) := by decide +kernel
theorem cod_98 : lw_tbl[492]? = some (.code yX7_held cX7_held 3 (some .int)) := by decide +kernel
theorem cod_99 : lw_tbl[324]? = some (.code yX7_isValue cX7_isValue 2 (some .boolean)) := by decide +kernel
theorem cod_100 : lw_tbl[549]? = some (.code yX7_isSupposable cX7_isSupposable 4 (some .boolean)) := by decide +kernel
theorem cod_101 : lw_tbl[537]? = some (.code yX7_firstDay cX7_firstDay 5 (some .int)) := by decide +kernel
theorem cod_102 : lw_tbl[553]? = some (.code yX7_tallest cX7_tallest 10 (some .int)) := by decide +kernel
theorem cod_103 : lw_tbl[574]? = some (.code yX7_addDifferences cX7_addDifferences 4 none) := by decide +kernel
theorem cod_104 : lw_tbl[795]? = some (.code yX7_sheetFinding cX7_sheetFinding 2 (some .int)) := by decide +kernel
theorem cod_105 : lw_tbl[833]? = some (.code yX7_slotFinding cX7_slotFinding 3 (some .int)) := by decide +kernel
theorem cod_106 : lw_tbl[866]? = some (.code yX8_init cX8_init 2 none) := by decide +kernel
theorem cod_107 : lw_tbl[972]? = some (.code yX8_isIn cX8_isIn 6 (some .boolean)) := by decide +kernel
theorem cod_108 : lw_tbl[1106]? = some (.code yX8_orNone cX8_orNone 1 (some .int)) := by decide +kernel
theorem cod_109 : lw_tbl[1060]? = some (.code yX8_within cX8_within 2 (some .int)) := by decide +kernel
theorem cod_110 : lw_tbl[1038]? = some (.code yX8_off cX8_off 2 (some .int)) := by decide +kernel
theorem cod_111 : lw_tbl[1087]? = some (.code yX8_changes cX8_changes 4 (some .int)) := by decide +kernel
theorem cod_112 : lw_tbl[1050]? = some (.code yX8_textAt cX8_textAt 2 (some .int)) := by decide +kernel
theorem cod_113 : lw_tbl[996]? = some (.code yX8_of cX8_of 3 (some .int)) := by decide +kernel
theorem cod_114 : lw_tbl[1010]? = some (.code yX8_sets cX8_sets 4 none) := by decide +kernel
theorem cod_115 : lw_tbl[1018]? = some (.code yX8_isOne cX8_isOne 2 (some .boolean)) := by decide +kernel
theorem cod_116 : lw_tbl[1307]? = some (.code yX8_isText cX8_isText 2 (some .boolean)) := by decide +kernel
theorem cod_117 : lw_tbl[1122]? = some (.code yX8_drawn cX8_drawn 1 (some .int)) := by decide +kernel
theorem cod_118 : lw_tbl[1078]? = some (.code yX8_isOf cX8_isOf 2 (some .boolean)) := by decide +kernel
theorem cod_119 : lw_tbl[975]? = some (.code yX8_isPlace cX8_isPlace 1 (some .boolean)) := by decide +kernel
theorem cod_120 : lw_tbl[1000]? = some (.code yX8_isScreen cX8_isScreen 2 (some .boolean)) := by decide +kernel
theorem cod_121 : lw_tbl[992]? = some (.code yX8_whose cX8_whose 3 (some .int)) := by decide +kernel
theorem cod_122 : lw_tbl[988]? = some (.code yX8_isFree cX8_isFree 2 (some .boolean)) := by decide +kernel
theorem cod_123 : lw_tbl[1006]? = some (.code yX8_comes cX8_comes 7 none) := by decide +kernel
theorem cod_124 : lw_tbl[979]? = some (.code yX8_isOneSo cX8_isOneSo 3 (some .boolean)) := by decide +kernel
theorem cod_125 : lw_tbl[968]? = some (.code yX8_one cX8_one 6 (some .int)) := by decide +kernel
theorem cod_126 : lw_tbl[1067]? = some (.code yX8_grows cX8_grows 4 (some .int)) := by decide +kernel
theorem cod_127 : lw_tbl[1071]? = some (.code yX8_worth cX8_worth 3 (some .int)) := by decide +kernel
theorem cod_128 : lw_tbl[1035]? = some (.code yX8_isClear cX8_isClear 10 (some .boolean)) := by decide +kernel
theorem cod_129 : lw_tbl[1031]? = some (.code yX8_doesSee cX8_doesSee 5 (some .boolean)) := by decide +kernel
theorem cod_130 : lw_tbl[1042]? = some (.code yX8_pulls cX8_pulls 5 (some .int)) := by decide +kernel
theorem cod_131 : lw_tbl[1027]? = some (.code yX8_looksAt cX8_looksAt 8 (some .int)) := by decide +kernel
theorem cod_132 : lw_tbl[1023]? = some (.code yX8_eyesOf cX8_eyesOf 4 (some .int)) := by decide +kernel
theorem cod_133 : lw_tbl[1063]? = some (.code yX8_many cX8_many 3 (some .int)) := by decide +kernel
theorem cod_134 : lw_tbl[1014]? = some (.code yX8_told cX8_told 3 (some .int)) := by decide +kernel
theorem cod_135 : lw_tbl[1075]? = some (.code yX8_as cX8_as 3 (some .int)) := by decide +kernel
theorem cod_136 : lw_tbl[1083]? = some (.code yX8_turns cX8_turns 3 (some .int)) := by decide +kernel
theorem cod_137 : lw_tbl[1091]? = some (.code yX8_set cX8_set 5 (some .int)) := by decide +kernel
theorem cod_138 : lw_tbl[1095]? = some (.code yX8_moves cX8_moves 3 (some .int)) := by decide +kernel
theorem cod_139 : lw_tbl[1099]? = some (.code yX8_screen cX8_screen 4 (some .int)) := by decide +kernel
theorem cod_140 : lw_tbl[1103]? = some (.code yX8_at cX8_at 2 (some .int)) := by decide +kernel
theorem cod_141 : lw_tbl[1111]? = some (.code yX8_rule cX8_rule 3 (some .int)) := by decide +kernel
theorem cod_142 : lw_tbl[1117]? = some (.code yX8_deal cX8_deal 10 (some .int)) := by decide +kernel
theorem cod_143 : lw_tbl[1127]? = some (.code yX8_seed cX8_seed 2 (some .int)) := by decide +kernel
theorem cod_144 : lw_tbl[1131]? = some (.code yX8_looks cX8_looks 2 (some .int)) := by decide +kernel
theorem cod_145 : lw_tbl[1135]? = some (.code yX8_eyes cX8_eyes 2 (some .int)) := by decide +kernel
theorem cod_146 : lw_tbl[1139]? = some (.code yX8_sees cX8_sees 4 (some .int)) := by decide +kernel
theorem cod_147 : lw_tbl[1155]? = some (.code yX8_allLook cX8_allLook 3 none) := by decide +kernel
theorem cod_148 : lw_tbl[1151]? = some (.code yX8_goesOn cX8_goesOn 4 none) := by decide +kernel
theorem cod_149 : lw_tbl[1147]? = some (.code yX8_goesOnMany cX8_goesOnMany 3 none) := by decide +kernel
theorem cod_150 : lw_tbl[1143]? = some (.code yX8_days cX8_days 4 (some .int)) := by decide +kernel
theorem cod_151 : lw_tbl[1164]? = some (.code yX8_sizes cX8_sizes 3 (some .int)) := by decide +kernel
theorem cod_152 : lw_tbl[1159]? = some (.code yX8_town cX8_town 2 (some .int)) := by decide +kernel
theorem cod_153 : lw_tbl[1180]? = some (.code yX8_laysBy cX8_laysBy 2 none) := by decide +kernel
theorem cod_154 : lw_tbl[1184]? = some (.code yX8_laysBack cX8_laysBack 2 none) := by decide +kernel
theorem cod_155 : lw_tbl[1168]? = some (.code yX8_curtain cX8_curtain 8 (some .int)) := by decide +kernel
theorem cod_156 : lw_tbl[1172]? = some (.code yX8_seat cX8_seat 8 (some .int)) := by decide +kernel
theorem cod_157 : lw_tbl[1176]? = some (.code yX8_behind cX8_behind 4 (some .int)) := by decide +kernel
theorem cod_158 : lw_tbl[1188]? = some (.code yX8_vanishes cX8_vanishes 3 (some .int)) := by decide +kernel
theorem cod_159 : lw_tbl[1192]? = some (.code yX8_bumps cX8_bumps 3 (some .int)) := by decide +kernel
theorem cod_160 : lw_tbl[1199]? = some (.code yX8_isAsked cX8_isAsked 2 (some .boolean)) := by decide +kernel
theorem cod_161 : lw_tbl[1204]? = some (.code yX8_tallest cX8_tallest 11 (some .int)) := by decide +kernel
theorem cod_162 : lw_tbl[1196]? = some (.code yX8_loud cX8_loud 4 (some .int)) := by decide +kernel
theorem cod_163 : lw_tbl[1212]? = some (.code yX8_lovedMost cX8_lovedMost 8 (some .int)) := by decide +kernel
theorem cod_164 : lw_tbl[1208]? = some (.code yX8_loved cX8_loved 4 (some .int)) := by decide +kernel
theorem cod_165 : lw_tbl[1216]? = some (.code yX8_becomes cX8_becomes 4 (some .int)) := by decide +kernel
theorem cod_166 : lw_tbl[1220]? = some (.code yX8_fee cX8_fee 2 (some .int)) := by decide +kernel
theorem cod_167 : lw_tbl[1224]? = some (.code yX8_fine cX8_fine 3 (some .int)) := by decide +kernel
theorem cod_168 : lw_tbl[1228]? = some (.code yX8_feed cX8_feed 6 (some .int)) := by decide +kernel
theorem cod_169 : lw_tbl[1232]? = some (.code yX8_trim cX8_trim 2 (some .int)) := by decide +kernel
theorem cod_170 : lw_tbl[1248]? = some (.code yX8_isLetter cX8_isLetter 2 (some .boolean)) := by decide +kernel
theorem cod_171 : lw_tbl[1254]? = some (.code yX8_isDigit cX8_isDigit 2 (some .boolean)) := by decide +kernel
theorem cod_172 : lw_tbl[1244]? = some (.code yX8_nextToken cX8_nextToken 3 none) := by decide +kernel
theorem cod_173 : lw_tbl[1299]? = some (.code yX8_isSign cX8_isSign 2 (some .boolean)) := by decide +kernel
theorem cod_174 : lw_tbl[1264]? = some (.code yX8_isWordAt cX8_isWordAt 6 (some .boolean)) := by decide +kernel
theorem cod_175 : lw_tbl[1260]? = some (.code yX8_key cX8_key 1 (some .int)) := by decide +kernel
theorem cod_176 : lw_tbl[1295]? = some (.code yX8_isName cX8_isName 2 (some .boolean)) := by decide +kernel
theorem cod_177 : lw_tbl[1292]? = some (.code yX8_step cX8_step 3 none) := by decide +kernel
theorem cod_178 : lw_tbl[1268]? = some (.code yX8_either cX8_either 2 (some .boolean)) := by decide +kernel
theorem cod_179 : lw_tbl[1272]? = some (.code yX8_both cX8_both 2 (some .boolean)) := by decide +kernel
theorem cod_180 : lw_tbl[1276]? = some (.code yX8_test cX8_test 3 (some .boolean)) := by decide +kernel
theorem cod_181 : lw_tbl[1280]? = some (.code yX8_sum cX8_sum 3 (some .boolean)) := by decide +kernel
theorem cod_182 : lw_tbl[1284]? = some (.code yX8_term cX8_term 3 (some .boolean)) := by decide +kernel
theorem cod_183 : lw_tbl[1288]? = some (.code yX8_part0 cX8_part0 2 (some .boolean)) := by decide +kernel
theorem cod_184 : lw_tbl[1240]? = some (.code yX8_parse cX8_parse 3 (some .int)) := by decide +kernel
theorem cod_185 : lw_tbl[1236]? = some (.code yX8_text cX8_text 3 (some .int)) := by decide +kernel
theorem cod_186 : lw_tbl[1303]? = some (.code yX8_textTold cX8_textTold 3 (some .int)) := by decide +kernel
theorem cod_187 : lw_tbl[1046]? = some (.code yX8_counts cX8_counts 4 (some .int)) := by decide +kernel
theorem cod_188 : lw_tbl[1311]? = some (.code yX8_why cX8_why 2 (some .int)) := by decide +kernel
theorem cod_189 : lw_tbl[1057]? = some (.code yX8_joined cX8_joined 3 (some .int)) := by decide +kernel
theorem cod_190 : lw_tbl[1054]? = some (.code yX8_worked cX8_worked 6 (some .int)) := by decide +kernel
theorem cod_191 : lw_tbl[1318]? = some (.code yX8_isSheet cX8_isSheet 1 (some .boolean)) := by decide +kernel
theorem cod_192 : lw_tbl[1315]? = some (.code yX8_sheet cX8_sheet 5 (some .int)) := by decide +kernel
theorem cod_193 : lw_tbl[1324]? = some (.code yX8_mark cX8_mark 4 (some .int)) := by decide +kernel
theorem cod_194 : lw_tbl[1332]? = some (.code yX8_pour cX8_pour 6 (some .int)) := by decide +kernel
theorem cod_195 : lw_tbl[1336]? = some (.code yX8_reads cX8_reads 4 (some .int)) := by decide +kernel
theorem cod_196 : lw_tbl[1344]? = some (.code yX8_offBy cX8_offBy 6 (some .int)) := by decide +kernel
theorem cod_197 : lw_tbl[1340]? = some (.code yX8_like cX8_like 7 (some .int)) := by decide +kernel
theorem cod_198 : lw_tbl[1348]? = some (.code yX8_copy cX8_copy 7 (some .int)) := by decide +kernel
theorem cod_199 : lw_tbl[1355]? = some (.code yX8_isSlot cX8_isSlot 1 (some .boolean)) := by decide +kernel
theorem cod_200 : lw_tbl[1352]? = some (.code yX8_lay cX8_lay 7 (some .int)) := by decide +kernel
theorem cod_201 : lw_tbl[1359]? = some (.code yX8_ask cX8_ask 3 (some .int)) := by decide +kernel
theorem cod_202 : lw_tbl[1363]? = some (.code yX8_item cX8_item 4 (some .int)) := by decide +kernel
theorem cod_203 : lw_tbl[1367]? = some (.code yX8_rest cX8_rest 3 (some .int)) := by decide +kernel
theorem cod_204 : lw_tbl[1371]? = some (.code yX8_tell cX8_tell 2 (some .int)) := by decide +kernel
theorem cod_205 : lw_tbl[1380]? = some (.code yX8_setAside cX8_setAside 4 none) := by decide +kernel
theorem cod_206 : lw_tbl[1375]? = some (.code yX8_check cX8_check 5 (some .int)) := by decide +kernel
theorem cod_207 : lw_tbl[1384]? = some (.code yX8_keep cX8_keep 1 (some .int)) := by decide +kernel
theorem cod_208 : lw_tbl[1388]? = some (.code yX8_back cX8_back 1 (some .int)) := by decide +kernel
theorem cod_209 : lw_tbl[1392]? = some (.code yX8_count cX8_count 2 (some .int)) := by decide +kernel
theorem cod_210 : lw_tbl[389]? = some (.code yJ6_bitCount_0f7a4 cJ6_bitCount_0f7a4 1 (some .int)) := by decide +kernel
theorem cod_211 : lw_tbl[622]? = some (.code yJ0_length_8abf5 cJ0_length_8abf5 1 (some .int)) := by decide +kernel
theorem cod_212 : lw_tbl[632]? = some (.code yJ0_charAt_5068e cJ0_charAt_5068e 2 (some .char)) := by decide +kernel
theorem cod_213 : lw_tbl[703]? = some (.code yJ0_indexOf_0f7a4 cJ0_indexOf_0f7a4 2 (some .int)) := by decide +kernel
theorem cod_214 : lw_tbl[707]? = some (.code yJ0_indexOf_7cf53 cJ0_indexOf_7cf53 3 (some .int)) := by decide +kernel
theorem cod_215 : lw_tbl[626]? = some (.code yJ0_coder_7d493 cJ0_coder_7d493 1 (some .byte)) := by decide +kernel
theorem cod_216 : lw_tbl[636]? = some (.code yJ0_isLatin1_aae02 cJ0_isLatin1_aae02 1 (some .boolean)) := by decide +kernel
theorem cod_217 : lw_tbl[642]? = some (.code yJ0_checkIndex_df160 cJ0_checkIndex_df160 2 none) := by decide +kernel
theorem cod_218 : lw_tbl[639]? = some (.code yJ1_charAt_3b067 cJ1_charAt_3b067 2 (some .char)) := by decide +kernel
theorem cod_219 : lw_tbl[714]? = some (.code yJ1_canEncode_9a6ad cJ1_canEncode_9a6ad 1 (some .boolean)) := by decide +kernel
theorem cod_220 : lw_tbl[711]? = some (.code yJ1_indexOf_4cfef cJ1_indexOf_4cfef 4 (some .int)) := by decide +kernel
theorem cod_221 : lw_tbl[719]? = some (.code yJ1_indexOfChar_4cfef cJ1_indexOfChar_4cfef 6 (some .int)) := by decide +kernel
theorem cod_222 : lw_tbl[647]? = some (.code yJ3_checkIndex_8e157 cJ3_checkIndex_8e157 3 (some .int)) := by decide +kernel
def codL : List Nat := List.range 223
theorem chk_law : mthT.all (fun e => decide (e.2.2.1 < 223)) = true := by decide +kernel
theorem cod_ok : ∀ {k : Nat} {y : aMt}, k < 223 → mtb[k]? = some y → Cond.code y.1 y.2.1 y.2.2.1 y.2.2.2.1 ∈ gtb := by
  intro k y hk h
  match k, hk, h with
  | 0, _, h => cases h; exact gtb_in cod_0 rfl
  | 1, _, h => cases h; exact gtb_in cod_1 rfl
  | 2, _, h => cases h; exact gtb_in cod_2 rfl
  | 3, _, h => cases h; exact gtb_in cod_3 rfl
  | 4, _, h => cases h; exact gtb_in cod_4 rfl
  | 5, _, h => cases h; exact gtb_in cod_5 rfl
  | 6, _, h => cases h; exact gtb_in cod_6 rfl
  | 7, _, h => cases h; exact gtb_in cod_7 rfl
  | 8, _, h => cases h; exact gtb_in cod_8 rfl
  | 9, _, h => cases h; exact gtb_in cod_9 rfl
  | 10, _, h => cases h; exact gtb_in cod_10 rfl
  | 11, _, h => cases h; exact gtb_in cod_11 rfl
  | 12, _, h => cases h; exact gtb_in cod_12 rfl
  | 13, _, h => cases h; exact gtb_in cod_13 rfl
  | 14, _, h => cases h; exact gtb_in cod_14 rfl
  | 15, _, h => cases h; exact gtb_in cod_15 rfl
  | 16, _, h => cases h; exact gtb_in cod_16 rfl
  | 17, _, h => cases h; exact gtb_in cod_17 rfl
  | 18, _, h => cases h; exact gtb_in cod_18 rfl
  | 19, _, h => cases h; exact gtb_in cod_19 rfl
  | 20, _, h => cases h; exact gtb_in cod_20 rfl
  | 21, _, h => cases h; exact gtb_in cod_21 rfl
  | 22, _, h => cases h; exact gtb_in cod_22 rfl
  | 23, _, h => cases h; exact gtb_in cod_23 rfl
  | 24, _, h => cases h; exact gtb_in cod_24 rfl
  | 25, _, h => cases h; exact gtb_in cod_25 rfl
  | 26, _, h => cases h; exact gtb_in cod_26 rfl
  | 27, _, h => cases h; exact gtb_in cod_27 rfl
  | 28, _, h => cases h; exact gtb_in cod_28 rfl
  | 29, _, h => cases h; exact gtb_in cod_29 rfl
  | 30, _, h => cases h; exact gtb_in cod_30 rfl
  | 31, _, h => cases h; exact gtb_in cod_31 rfl
  | 32, _, h => cases h; exact gtb_in cod_32 rfl
  | 33, _, h => cases h; exact gtb_in cod_33 rfl
  | 34, _, h => cases h; exact gtb_in cod_34 rfl
  | 35, _, h => cases h; exact gtb_in cod_35 rfl
  | 36, _, h => cases h; exact gtb_in cod_36 rfl
  | 37, _, h => cases h; exact gtb_in cod_37 rfl
  | 38, _, h => cases h; exact gtb_in cod_38 rfl
  | 39, _, h => cases h; exact gtb_in cod_39 rfl
  | 40, _, h => cases h; exact gtb_in cod_40 rfl
  | 41, _, h => cases h; exact gtb_in cod_41 rfl
  | 42, _, h => cases h; exact gtb_in cod_42 rfl
  | 43, _, h => cases h; exact gtb_in cod_43 rfl
  | 44, _, h => cases h; exact gtb_in cod_44 rfl
  | 45, _, h => cases h; exact gtb_in cod_45 rfl
  | 46, _, h => cases h; exact gtb_in cod_46 rfl
  | 47, _, h => cases h; exact gtb_in cod_47 rfl
  | 48, _, h => cases h; exact gtb_in cod_48 rfl
  | 49, _, h => cases h; exact gtb_in cod_49 rfl
  | 50, _, h => cases h; exact gtb_in cod_50 rfl
  | 51, _, h => cases h; exact gtb_in cod_51 rfl
  | 52, _, h => cases h; exact gtb_in cod_52 rfl
  | 53, _, h => cases h; exact gtb_in cod_53 rfl
  | 54, _, h => cases h; exact gtb_in cod_54 rfl
  | 55, _, h => cases h; exact gtb_in cod_55 rfl
  | 56, _, h => cases h; exact gtb_in cod_56 rfl
  | 57, _, h => cases h; exact gtb_in cod_57 rfl
  | 58, _, h => cases h; exact gtb_in cod_58 rfl
  | 59, _, h => cases h; exact gtb_in cod_59 rfl
  | 60, _, h => cases h; exact gtb_in cod_60 rfl
  | 61, _, h => cases h; exact gtb_in cod_61 rfl
  | 62, _, h => cases h; exact gtb_in cod_62 rfl
  | 63, _, h => cases h; exact gtb_in cod_63 rfl
  | 64, _, h => cases h; exact gtb_in cod_64 rfl
  | 65, _, h => cases h; exact gtb_in cod_65 rfl
  | 66, _, h => cases h; exact gtb_in cod_66 rfl
  | 67, _, h => cases h; exact gtb_in cod_67 rfl
  | 68, _, h => cases h; exact gtb_in cod_68 rfl
  | 69, _, h => cases h; exact gtb_in cod_69 rfl
  | 70, _, h => cases h; exact gtb_in cod_70 rfl
  | 71, _, h => cases h; exact gtb_in cod_71 rfl
  | 72, _, h => cases h; exact gtb_in cod_72 rfl
  | 73, _, h => cases h; exact gtb_in cod_73 rfl
  | 74, _, h => cases h; exact gtb_in cod_74 rfl
  | 75, _, h => cases h; exact gtb_in cod_75 rfl
  | 76, _, h => cases h; exact gtb_in cod_76 rfl
  | 77, _, h => cases h; exact gtb_in cod_77 rfl
  | 78, _, h => cases h; exact gtb_in cod_78 rfl
  | 79, _, h => cases h; exact gtb_in cod_79 rfl
  | 80, _, h => cases h; exact gtb_in cod_80 rfl
  | 81, _, h => cases h; exact gtb_in cod_81 rfl
  | 82, _, h => cases h; exact gtb_in cod_82 rfl
  | 83, _, h => cases h; exact gtb_in cod_83 rfl
  | 84, _, h => cases h; exact gtb_in cod_84 rfl
  | 85, _, h => cases h; exact gtb_in cod_85 rfl
  | 86, _, h => cases h; exact gtb_in cod_86 rfl
  | 87, _, h => cases h; exact gtb_in cod_87 rfl
  | 88, _, h => cases h; exact gtb_in cod_88 rfl
  | 89, _, h => cases h; exact gtb_in cod_89 rfl
  | 90, _, h => cases h; exact gtb_in cod_90 rfl
  | 91, _, h => cases h; exact gtb_in cod_91 rfl
  | 92, _, h => cases h; exact gtb_in cod_92 rfl
  | 93, _, h => cases h; exact gtb_in cod_93 rfl
  | 94, _, h => cases h; exact gtb_in cod_94 rfl
  | 95, _, h => cases h; exact gtb_in cod_95 rfl
  | 96, _, h => cases h; exact gtb_in cod_96 rfl
  | 97, _, h => cases h; exact gtb_in cod_97 rfl
  | 98, _, h => cases h; exact gtb_in cod_98 rfl
  | 99, _, h => cases h; exact gtb_in cod_99 rfl
  | 100, _, h => cases h; exact gtb_in cod_100 rfl
  | 101, _, h => cases h; exact gtb_in cod_101 rfl
  | 102, _, h => cases h; exact gtb_in cod_102 rfl
  | 103, _, h => cases h; exact gtb_in cod_103 rfl
  | 104, _, h => cases h; exact gtb_in cod_104 rfl
  | 105, _, h => cases h; exact gtb_in cod_105 rfl
  | 106, _, h => cases h; exact gtb_in cod_106 rfl
  | 107, _, h => cases h; exact gtb_in cod_107 rfl
  | 108, _, h => cases h; exact gtb_in cod_108 rfl
  | 109, _, h => cases h; exact gtb_in cod_109 rfl
  | 110, _, h => cases h; exact gtb_in cod_110 rfl
  | 111, _, h => cases h; exact gtb_in cod_111 rfl
  | 112, _, h => cases h; exact gtb_in cod_112 rfl
  | 113, _, h => cases h; exact gtb_in cod_113 rfl
  | 114, _, h => cases h; exact gtb_in cod_114 rfl
  | 115, _, h => cases h; exact gtb_in cod_115 rfl
  | 116, _, h => cases h; exact gtb_in cod_116 rfl
  | 117, _, h => cases h; exact gtb_in cod_117 rfl
  | 118, _, h => cases h; exact gtb_in cod_118 rfl
  | 119, _, h => cases h; exact gtb_in cod_119 rfl
  | 120, _, h => cases h; exact gtb_in cod_120 rfl
  | 121, _, h => cases h; exact gtb_in cod_121 rfl
  | 122, _, h => cases h; exact gtb_in cod_122 rfl
  | 123, _, h => cases h; exact gtb_in cod_123 rfl
  | 124, _, h => cases h; exact gtb_in cod_124 rfl
  | 125, _, h => cases h; exact gtb_in cod_125 rfl
  | 126, _, h => cases h; exact gtb_in cod_126 rfl
  | 127, _, h => cases h; exact gtb_in cod_127 rfl
  | 128, _, h => cases h; exact gtb_in cod_128 rfl
  | 129, _, h => cases h; exact gtb_in cod_129 rfl
  | 130, _, h => cases h; exact gtb_in cod_130 rfl
  | 131, _, h => cases h; exact gtb_in cod_131 rfl
  | 132, _, h => cases h; exact gtb_in cod_132 rfl
  | 133, _, h => cases h; exact gtb_in cod_133 rfl
  | 134, _, h => cases h; exact gtb_in cod_134 rfl
  | 135, _, h => cases h; exact gtb_in cod_135 rfl
  | 136, _, h => cases h; exact gtb_in cod_136 rfl
  | 137, _, h => cases h; exact gtb_in cod_137 rfl
  | 138, _, h => cases h; exact gtb_in cod_138 rfl
  | 139, _, h => cases h; exact gtb_in cod_139 rfl
  | 140, _, h => cases h; exact gtb_in cod_140 rfl
  | 141, _, h => cases h; exact gtb_in cod_141 rfl
  | 142, _, h => cases h; exact gtb_in cod_142 rfl
  | 143, _, h => cases h; exact gtb_in cod_143 rfl
  | 144, _, h => cases h; exact gtb_in cod_144 rfl
  | 145, _, h => cases h; exact gtb_in cod_145 rfl
  | 146, _, h => cases h; exact gtb_in cod_146 rfl
  | 147, _, h => cases h; exact gtb_in cod_147 rfl
  | 148, _, h => cases h; exact gtb_in cod_148 rfl
  | 149, _, h => cases h; exact gtb_in cod_149 rfl
  | 150, _, h => cases h; exact gtb_in cod_150 rfl
  | 151, _, h => cases h; exact gtb_in cod_151 rfl
  | 152, _, h => cases h; exact gtb_in cod_152 rfl
  | 153, _, h => cases h; exact gtb_in cod_153 rfl
  | 154, _, h => cases h; exact gtb_in cod_154 rfl
  | 155, _, h => cases h; exact gtb_in cod_155 rfl
  | 156, _, h => cases h; exact gtb_in cod_156 rfl
  | 157, _, h => cases h; exact gtb_in cod_157 rfl
  | 158, _, h => cases h; exact gtb_in cod_158 rfl
  | 159, _, h => cases h; exact gtb_in cod_159 rfl
  | 160, _, h => cases h; exact gtb_in cod_160 rfl
  | 161, _, h => cases h; exact gtb_in cod_161 rfl
  | 162, _, h => cases h; exact gtb_in cod_162 rfl
  | 163, _, h => cases h; exact gtb_in cod_163 rfl
  | 164, _, h => cases h; exact gtb_in cod_164 rfl
  | 165, _, h => cases h; exact gtb_in cod_165 rfl
  | 166, _, h => cases h; exact gtb_in cod_166 rfl
  | 167, _, h => cases h; exact gtb_in cod_167 rfl
  | 168, _, h => cases h; exact gtb_in cod_168 rfl
  | 169, _, h => cases h; exact gtb_in cod_169 rfl
  | 170, _, h => cases h; exact gtb_in cod_170 rfl
  | 171, _, h => cases h; exact gtb_in cod_171 rfl
  | 172, _, h => cases h; exact gtb_in cod_172 rfl
  | 173, _, h => cases h; exact gtb_in cod_173 rfl
  | 174, _, h => cases h; exact gtb_in cod_174 rfl
  | 175, _, h => cases h; exact gtb_in cod_175 rfl
  | 176, _, h => cases h; exact gtb_in cod_176 rfl
  | 177, _, h => cases h; exact gtb_in cod_177 rfl
  | 178, _, h => cases h; exact gtb_in cod_178 rfl
  | 179, _, h => cases h; exact gtb_in cod_179 rfl
  | 180, _, h => cases h; exact gtb_in cod_180 rfl
  | 181, _, h => cases h; exact gtb_in cod_181 rfl
  | 182, _, h => cases h; exact gtb_in cod_182 rfl
  | 183, _, h => cases h; exact gtb_in cod_183 rfl
  | 184, _, h => cases h; exact gtb_in cod_184 rfl
  | 185, _, h => cases h; exact gtb_in cod_185 rfl
  | 186, _, h => cases h; exact gtb_in cod_186 rfl
  | 187, _, h => cases h; exact gtb_in cod_187 rfl
  | 188, _, h => cases h; exact gtb_in cod_188 rfl
  | 189, _, h => cases h; exact gtb_in cod_189 rfl
  | 190, _, h => cases h; exact gtb_in cod_190 rfl
  | 191, _, h => cases h; exact gtb_in cod_191 rfl
  | 192, _, h => cases h; exact gtb_in cod_192 rfl
  | 193, _, h => cases h; exact gtb_in cod_193 rfl
  | 194, _, h => cases h; exact gtb_in cod_194 rfl
  | 195, _, h => cases h; exact gtb_in cod_195 rfl
  | 196, _, h => cases h; exact gtb_in cod_196 rfl
  | 197, _, h => cases h; exact gtb_in cod_197 rfl
  | 198, _, h => cases h; exact gtb_in cod_198 rfl
  | 199, _, h => cases h; exact gtb_in cod_199 rfl
  | 200, _, h => cases h; exact gtb_in cod_200 rfl
  | 201, _, h => cases h; exact gtb_in cod_201 rfl
  | 202, _, h => cases h; exact gtb_in cod_202 rfl
  | 203, _, h => cases h; exact gtb_in cod_203 rfl
  | 204, _, h => cases h; exact gtb_in cod_204 rfl
  | 205, _, h => cases h; exact gtb_in cod_205 rfl
  | 206, _, h => cases h; exact gtb_in cod_206 rfl
  | 207, _, h => cases h; exact gtb_in cod_207 rfl
  | 208, _, h => cases h; exact gtb_in cod_208 rfl
  | 209, _, h => cases h; exact gtb_in cod_209 rfl
  | 210, _, h => cases h; exact gtb_in cod_210 rfl
  | 211, _, h => cases h; exact gtb_in cod_211 rfl
  | 212, _, h => cases h; exact gtb_in cod_212 rfl
  | 213, _, h => cases h; exact gtb_in cod_213 rfl
  | 214, _, h => cases h; exact gtb_in cod_214 rfl
  | 215, _, h => cases h; exact gtb_in cod_215 rfl
  | 216, _, h => cases h; exact gtb_in cod_216 rfl
  | 217, _, h => cases h; exact gtb_in cod_217 rfl
  | 218, _, h => cases h; exact gtb_in cod_218 rfl
  | 219, _, h => cases h; exact gtb_in cod_219 rfl
  | 220, _, h => cases h; exact gtb_in cod_220 rfl
  | 221, _, h => cases h; exact gtb_in cod_221 rfl
  | 222, _, h => cases h; exact gtb_in cod_222 rfl
  | _ + 223, hk, _ => omega
