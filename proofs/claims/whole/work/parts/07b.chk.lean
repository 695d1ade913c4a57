/-! THE TABLES AGAINST THE WORDS: by places (wip/whole/gen3.py) -/
def isRT : FieldType → Bool
  | .object _ => true
  | .array _ => true
  | _ => false
def okT : FieldType → Bool
  | .object _ => true
  | .array _ => true
  | .int => true
  | .boolean => true
  | _ => false
def tyL : List (Nat → FieldType) := [tyX1, tyX2, tyX3, tyX4, tyX5, tyX6, tyX7, tyX8]
def fty (ci k : Nat) : FieldType := (tyL.getD ci (fun _ => .int)) k
theorem find_ok {α : Type} {l : List α} {f : α → Bool} {e : α} (h : l.find? f = some e) : e ∈ l ∧ f e = true := ⟨List.mem_of_find?_eq_some h, List.find?_some h⟩
def gtb : List Cond := lw_tbl.filter goodWord
theorem gtb_in {i : Nat} {w : Cond} (h : lw_tbl[i]? = some w) (hg : goodWord w = true) : w ∈ gtb := List.mem_filter.mpr ⟨List.mem_of_getElem? h, hg⟩
theorem chk_ty : (List.range 8).all (fun ci => (List.range (vwCl.getD ci ("", fun _ => ("", "", "", false), 0)).2.2).all (fun j => okT (fty ci j))) = true := by decide +kernel
theorem mem_pl {ws : List Cond} (ps : List Nat) (h : ws.map some = ps.map (fun i => lw_tbl[i]?)) (hg : ws.all goodWord = true) : ∀ w ∈ ws, w ∈ gtb := by
  intro w hw
  have h1 : some w ∈ ps.map (fun i => lw_tbl[i]?) := by rw [← h]; exact List.mem_map.mpr ⟨w, hw, rfl⟩
  obtain ⟨i, -, hi⟩ := List.mem_map.mp h1
  exact gtb_in hi (List.all_eq_true.mp hg w hw)
theorem inU_0 : ∀ w ∈ u_ws RX1 TX1 2, w ∈ gtb := mem_pl [113, 115] (by decide +kernel) (by decide +kernel)
theorem inU_1 : ∀ w ∈ u_ws RX2 TX2 8, w ∈ gtb := mem_pl [133, 135, 137, 139, 141, 143, 145, 147] (by decide +kernel) (by decide +kernel)
theorem inU_2 : ∀ w ∈ u_ws RX3 TX3 3, w ∈ gtb := mem_pl [244, 246, 248] (by decide +kernel) (by decide +kernel)
theorem inU_3 : ∀ w ∈ u_ws RX4 TX4 5, w ∈ gtb := mem_pl [268, 270, 272, 274, 276] (by decide +kernel) (by decide +kernel)
theorem inU_4 : ∀ w ∈ u_ws RX5 TX5 4, w ∈ gtb := mem_pl [100, 102, 104, 106] (by decide +kernel) (by decide +kernel)
theorem inU_5 : ∀ w ∈ u_ws RX6 TX6 18, w ∈ gtb := mem_pl [192, 194, 196, 198, 200, 202, 204, 206, 208, 210, 212, 214, 216, 218, 220, 222, 224, 226] (by decide +kernel) (by decide +kernel)
theorem inU_6 : ∀ w ∈ u_ws RX7 TX7 11, w ∈ gtb := mem_pl [290, 292, 294, 296, 298, 300, 302, 304, 306, 308, 310] (by decide +kernel) (by decide +kernel)
theorem inU_7 : ∀ w ∈ u_ws RX8 TX8 32, w ∈ gtb := mem_pl [898, 900, 902, 904, 906, 908, 910, 912, 914, 916, 918, 920, 922, 924, 926, 928, 930, 932, 934, 936, 938, 940, 942, 944, 946, 948, 950, 952, 954, 956, 958, 960] (by decide +kernel) (by decide +kernel)
theorem cls_ok {ci : Nat} {r : vw_C} (h : vwCl[ci]? = some r) : (∀ w ∈ u_ws r.1 r.2.1 r.2.2, w ∈ gtb) ∧ (∀ k, k < r.2.2 → parseFieldDescriptor (r.2.1 k).2.2.1 = some (fty ci k)) ∧ (∀ a, a < r.2.2 → ∀ b, b < r.2.2 → a ≠ b → (r.2.1 a).2.1 ≠ (r.2.1 b).2.1) ∧ ci < 8 := by
  match ci, h with
  | 0, h => cases h; exact ⟨inU_0, tyX1_ok, nmX1, by decide⟩
  | 1, h => cases h; exact ⟨inU_1, tyX2_ok, nmX2, by decide⟩
  | 2, h => cases h; exact ⟨inU_2, tyX3_ok, nmX3, by decide⟩
  | 3, h => cases h; exact ⟨inU_3, tyX4_ok, nmX4, by decide⟩
  | 4, h => cases h; exact ⟨inU_4, tyX5_ok, nmX5, by decide⟩
  | 5, h => cases h; exact ⟨inU_5, tyX6_ok, nmX6, by decide⟩
  | 6, h => cases h; exact ⟨inU_6, tyX7_ok, nmX7, by decide⟩
  | 7, h => cases h; exact ⟨inU_7, tyX8_ok, nmX8, by decide⟩
  | _ + 8, h => cases h
theorem chk_fld : fldT.all (fun e => match vwCl[e.2.2.1]? with
  | some r => decide (e.2.2.2.1 < r.2.2) && decide (lw_tbl[e.2.2.2.2]? = some (.fieldLink (ownN e.1) e.2.1 (r.2.1 e.2.2.2.1).1 (r.2.1 e.2.2.2.1).2.1 (r.2.1 e.2.2.2.1).2.2.1)) && goodWord (.fieldLink (ownN e.1) e.2.1 (r.2.1 e.2.2.2.1).1 (r.2.1 e.2.2.2.1).2.1 (r.2.1 e.2.2.2.1).2.2.1) && decide (r.1 = (r.2.1 e.2.2.2.1).1) && ((r.2.1 e.2.2.2.1).2.2.2 == isRT (fty e.2.2.1 e.2.2.2.1))
  | none => false) = true := by decide +kernel
theorem fld_ok {own x : Nat} {e : Nat × Nat × Nat × Nat × Nat} (h : fldE own x = some e) : ∃ r, vwCl[e.2.2.1]? = some r ∧ e.2.2.2.1 < r.2.2 ∧ Cond.fieldLink (ownN own) x (r.2.1 e.2.2.2.1).1 (r.2.1 e.2.2.2.1).2.1 (r.2.1 e.2.2.2.1).2.2.1 ∈ gtb ∧ r.1 = (r.2.1 e.2.2.2.1).1 ∧ (r.2.1 e.2.2.2.1).2.2.2 = isRT (fty e.2.2.1 e.2.2.2.1) := by
  obtain ⟨h1, h2⟩ := find_ok h
  have h3 := List.all_eq_true.mp chk_fld e h1
  simp only [Bool.and_eq_true, beq_iff_eq] at h2
  cases hr : vwCl[e.2.2.1]? with
  | none => rw [hr] at h3; cases h3
  | some r =>
    rw [hr] at h3
    simp only [Bool.and_eq_true, decide_eq_true_eq, beq_iff_eq] at h3
    obtain ⟨⟨⟨⟨a1, a2⟩, a3⟩, a4⟩, a5⟩ := h3
    refine ⟨r, rfl, a1, ?_, a4, a5⟩
    rw [← h2.1, ← h2.2]
    exact gtb_in a2 a3
theorem chk_sfd : sfdT.all (fun e => decide (lw_tbl[e.2.2.2]? = some (.fieldLink (ownN e.1) e.2.1 RJ0 (if e.2.2.1 = 0 then "value" else "coder") (if e.2.2.1 = 0 then "[B" else "B"))) && goodWord (.fieldLink (ownN e.1) e.2.1 RJ0 (if e.2.2.1 = 0 then "value" else "coder") (if e.2.2.1 = 0 then "[B" else "B"))) = true := by decide +kernel
theorem sfd_ok {own x : Nat} {e : Nat × Nat × Nat × Nat} (h : sfdE own x = some e) : Cond.fieldLink (ownN own) x RJ0 (if e.2.2.1 = 0 then "value" else "coder") (if e.2.2.1 = 0 then "[B" else "B") ∈ gtb := by
  obtain ⟨h1, h2⟩ := find_ok h
  have h3 := List.all_eq_true.mp chk_sfd e h1
  simp only [Bool.and_eq_true, decide_eq_true_eq, beq_iff_eq] at h2 h3
  rw [← h2.1, ← h2.2]
  exact gtb_in h3.1 h3.2
def gsC (k : Nat) : String := if k = 0 then RX0 else if k = 1 then RJ0 else RJ3
def gsN (k : Nat) : String := if k = 0 then "ABOVE" else if k = 1 then "COMPACT_STRINGS" else "SIOOBE_FORMATTER"
def gsD (k : Nat) : String := if k = 0 then "[I" else if k = 1 then "Z" else "Ljava/util/function/BiFunction;"
theorem chk_gst : gstT.all (fun e => decide (lw_tbl[e.2.2.2]? = some (.fieldLink (ownN e.1) e.2.1 (gsC e.2.2.1) (gsN e.2.2.1) (gsD e.2.2.1))) && goodWord (.fieldLink (ownN e.1) e.2.1 (gsC e.2.2.1) (gsN e.2.2.1) (gsD e.2.2.1))) = true := by decide +kernel
theorem gst_ok {own x : Nat} {e : Nat × Nat × Nat × Nat} (h : gstE own x = some e) : Cond.fieldLink (ownN own) x (gsC e.2.2.1) (gsN e.2.2.1) (gsD e.2.2.1) ∈ gtb := by
  obtain ⟨h1, h2⟩ := find_ok h
  have h3 := List.all_eq_true.mp chk_gst e h1
  simp only [Bool.and_eq_true, decide_eq_true_eq, beq_iff_eq] at h2 h3
  rw [← h2.1, ← h2.2]
  exact gtb_in h3.1 h3.2
def insP : List Nat := [77, 119, 233, 251, 84, 152, 69, 861]
def iniP : List Nat := [52, 54, 56, 57, 53, 55, 51, 58]
theorem chk_new : newT.all (fun e => match vwCl[e.2.2.1]? with
  | some r => decide (lw_tbl[e.2.2.2]? = some (.classLink (ownN e.1) e.2.1 r.1)) && goodWord (.classLink (ownN e.1) e.2.1 r.1) && decide (lw_tbl[insP.getD e.2.2.1 0]? = some (.instantiable r.1 r.2.2)) && goodWord (.instantiable r.1 r.2.2) && decide (lw_tbl[iniP.getD e.2.2.1 0]? = some (.initialized r.1)) && goodWord (.initialized r.1)
  | none => false) = true := by decide +kernel
theorem new_ok {own x : Nat} {e : Nat × Nat × Nat × Nat} (h : newE own x = some e) : ∃ r, vwCl[e.2.2.1]? = some r ∧ Cond.classLink (ownN own) x r.1 ∈ gtb ∧ Cond.instantiable r.1 r.2.2 ∈ gtb ∧ Cond.initialized r.1 ∈ gtb := by
  obtain ⟨h1, h2⟩ := find_ok h
  have h3 := List.all_eq_true.mp chk_new e h1
  simp only [Bool.and_eq_true, beq_iff_eq] at h2
  cases hr : vwCl[e.2.2.1]? with
  | none => rw [hr] at h3; cases h3
  | some r =>
    rw [hr] at h3
    simp only [Bool.and_eq_true, decide_eq_true_eq, beq_iff_eq] at h3
    obtain ⟨⟨⟨⟨⟨a1, a2⟩, a3⟩, a4⟩, a5⟩, a6⟩ := h3
    refine ⟨r, rfl, ?_, gtb_in a3 a4, gtb_in a5 a6⟩
    rw [← h2.1, ← h2.2]
    exact gtb_in a1 a2
theorem chk_anw : anwT.all (fun e => match vwCl[e.2.2.1]? with
  | some r => decide (lw_tbl[e.2.2.2]? = some (.classLink (ownN e.1) e.2.1 r.1)) && goodWord (.classLink (ownN e.1) e.2.1 r.1)
  | none => false) = true := by decide +kernel
theorem anw_ok {own x : Nat} {e : Nat × Nat × Nat × Nat} (h : anwE own x = some e) : ∃ r, vwCl[e.2.2.1]? = some r ∧ Cond.classLink (ownN own) x r.1 ∈ gtb := by
  obtain ⟨h1, h2⟩ := find_ok h
  have h3 := List.all_eq_true.mp chk_anw e h1
  simp only [Bool.and_eq_true, beq_iff_eq] at h2
  cases hr : vwCl[e.2.2.1]? with
  | none => rw [hr] at h3; cases h3
  | some r =>
    rw [hr] at h3
    simp only [Bool.and_eq_true, decide_eq_true_eq] at h3
    refine ⟨r, rfl, ?_⟩
    rw [← h2.1, ← h2.2]
    exact gtb_in h3.1 h3.2
theorem chk_obj : objT.all (fun e => decide (lw_tbl[e.2.2]? = some (.methodLink (ownN e.1) e.2.1 Lib.objectInit)) && goodWord (.methodLink (ownN e.1) e.2.1 Lib.objectInit)) = true := by decide +kernel
theorem obj_in : Cond.instanceMethod Lib.objectInit ∈ gtb := gtb_in (i := 74) (by decide +kernel) (by decide +kernel)
theorem obj_co : Cond.code Lib.objectInit ⟨#[0xb1]⟩ 1 none ∈ gtb := gtb_in (i := 75) (by decide +kernel) (by decide +kernel)
theorem obj_ok {own x : Nat} {e : Nat × Nat × Nat} (h : objE own x = some e) : Cond.methodLink (ownN own) x Lib.objectInit ∈ gtb := by
  obtain ⟨h1, h2⟩ := find_ok h
  have h3 := List.all_eq_true.mp chk_obj e h1
  simp only [Bool.and_eq_true, decide_eq_true_eq, beq_iff_eq] at h2 h3
  rw [← h2.1, ← h2.2]
  exact gtb_in h3.1 h3.2
theorem chk_acp : acpT.all (fun e => decide (lw_tbl[e.2.2]? = some (.methodLink (ownN e.1) e.2.1 arraycopyName)) && goodWord (.methodLink (ownN e.1) e.2.1 arraycopyName)) = true := by decide +kernel
theorem acp_na : Cond.native arraycopyName ∈ gtb := gtb_in (i := 519) (by decide +kernel) (by decide +kernel)
theorem acp_st : Cond.static arraycopyName ∈ gtb := gtb_in (i := 518) (by decide +kernel) (by decide +kernel)
theorem acp_in : Cond.initialized "java/lang/System" ∈ gtb := gtb_in (i := 62) (by decide +kernel) (by decide +kernel)
theorem acp_ok {own x : Nat} {e : Nat × Nat × Nat} (h : acpE own x = some e) : Cond.methodLink (ownN own) x arraycopyName ∈ gtb := by
  obtain ⟨h1, h2⟩ := find_ok h
  have h3 := List.all_eq_true.mp chk_acp e h1
  simp only [Bool.and_eq_true, decide_eq_true_eq, beq_iff_eq] at h2 h3
  rw [← h2.1, ← h2.2]
  exact gtb_in h3.1 h3.2
theorem arr_I : Cond.arrayClass .int ∈ gtb := gtb_in (i := 109) (by decide +kernel) (by decide +kernel)
theorem arr_B : Cond.arrayClass .byte ∈ gtb := gtb_in (i := 150) (by decide +kernel) (by decide +kernel)
def matN (k : Nat) : MethodName := if k = 0 then Lib.Math.max.name else if k = 1 then Lib.Math.min.name else Lib.Math.abs.name
theorem chk_mat : matT.all (fun e => decide (lw_tbl[e.2.2.2]? = some (.methodLink (ownN e.1) e.2.1 (matN e.2.2.1))) && goodWord (.methodLink (ownN e.1) e.2.1 (matN e.2.2.1)) && decide (e.2.2.1 < 3)) = true := by decide +kernel
theorem mat_ok {own x : Nat} {e : Nat × Nat × Nat × Nat} (h : matE own x = some e) : Cond.methodLink (ownN own) x (matN e.2.2.1) ∈ gtb ∧ e.2.2.1 < 3 := by
  obtain ⟨h1, h2⟩ := find_ok h
  have h3 := List.all_eq_true.mp chk_mat e h1
  simp only [Bool.and_eq_true, decide_eq_true_eq, beq_iff_eq] at h2 h3
  rw [← h2.1, ← h2.2]
  exact ⟨gtb_in h3.1.1 h3.1.2, h3.2⟩
theorem mat_in : Cond.initialized "java/lang/Math" ∈ gtb := gtb_in (i := 59) (by decide +kernel) (by decide +kernel)
theorem mat_s0 : Cond.static Lib.Math.max.name ∈ gtb := gtb_in (i := 363) (by decide +kernel) (by decide +kernel)
theorem mat_c0 : Cond.code Lib.Math.max.name Lib.Math.max.code 2 (some .int) ∈ gtb := gtb_in (i := 364) (by decide +kernel) (by decide +kernel)
theorem mat_s1 : Cond.static Lib.Math.min.name ∈ gtb := gtb_in (i := 380) (by decide +kernel) (by decide +kernel)
theorem mat_c1 : Cond.code Lib.Math.min.name Lib.Math.min.code 2 (some .int) ∈ gtb := gtb_in (i := 381) (by decide +kernel) (by decide +kernel)
theorem mat_s2 : Cond.static Lib.Math.abs.name ∈ gtb := gtb_in (i := 370) (by decide +kernel) (by decide +kernel)
theorem mat_c2 : Cond.code Lib.Math.abs.name Lib.Math.abs.code 1 (some .int) ∈ gtb := gtb_in (i := 371) (by decide +kernel) (by decide +kernel)
/-- a row of calls against the words -/
def chkM (e : Nat × Nat × Nat × Nat × Nat × Nat × Nat × Nat × Nat × Nat) : Bool := match mtb[e.2.2.1]? with
  | some y =>
    decide (lw_tbl[e.2.2.2.2.2.1]? = some (if e.2.2.2.1 = 3 ∨ e.2.2.2.1 = 4 then .methodLinkNest (ownN e.1) e.2.1 y.1 RX7 else .methodLink (ownN e.1) e.2.1 y.1)) &&
    ((e.2.2.2.1 == 3) || (e.2.2.2.1 == 4) || goodWord (.methodLink (ownN e.1) e.2.1 y.1)) &&
    (if e.2.2.2.1 = 0 ∨ e.2.2.2.1 = 3 then decide (lw_tbl[e.2.2.2.2.2.2.1]? = some (.static y.1)) && goodWord (.static y.1) else decide (lw_tbl[e.2.2.2.2.2.2.1]? = some (.instanceMethod y.1)) && goodWord (.instanceMethod y.1)) &&
    (!(e.2.2.2.1 == 1) || (decide (lw_tbl[e.2.2.2.2.2.2.2.1]? = some (.selects y.1.cls y.1 y.1)) && goodWord (.selects y.1.cls y.1 y.1))) &&
    decide (lw_tbl[e.2.2.2.2.2.2.2.2.1]? = some (.initialized y.1.cls)) && goodWord (.initialized y.1.cls) &&
    decide (y.1.cls ≠ "java/lang/invoke/MethodHandle") && decide (y.1.cls ≠ "java/lang/invoke/VarHandle") && plainName y.1.cls && decide (y.2.2.1 ≤ 40) &&
    decide ((parseMethodDescriptor y.1.desc).map (fun d => d.parameters.length) = some e.2.2.2.2.1) &&
    ((!(e.2.2.2.1 == 2) && !(e.2.2.2.1 == 4)) || (decide (y.1.name = "<init>") && decide (y.2.2.2.1 = none)))
  | none => false
theorem all_td {α : Type} {l : List α} {f : α → Bool} (n : Nat) (h1 : (l.take n).all f = true) (h2 : (l.drop n).all f = true) : l.all f = true := by
  rw [← List.take_append_drop n l, List.all_append, h1, h2]; rfl
theorem chk_mth_0 : ((mthT).take 60).all chkM = true := by decide +kernel
theorem chk_mth_1 : (((mthT).drop 60).take 60).all chkM = true := by decide +kernel
theorem chk_mth_2 : ((((mthT).drop 60).drop 60).take 60).all chkM = true := by decide +kernel
theorem chk_mth_3 : ((((mthT).drop 60).drop 60).drop 60).all chkM = true := by decide +kernel
theorem chk_mth : mthT.all chkM = true := all_td 60 chk_mth_0 (all_td 60 chk_mth_1 (all_td 60 chk_mth_2 (chk_mth_3)))
def codP : List Nat := [403, 393, 384, 396, 80, 375, 378, 122, 590, 602, 606, 610, 616, 756, 670, 763, 760, 674, 678, 686, 682, 694, 236, 785, 822, 813, 254, 87, 690, 155, 516, 341, 327, 333, 422, 555, 508, 448, 444, 453, 357, 361, 353, 368, 349, 345, 482, 486, 495, 500, 72, 316, 337, 400, 410, 414, 418, 426, 430, 435, 439, 459, 463, 468, 473, 478, 504, 512, 523, 527, 531, 539, 543, 559, 563, 567, 577, 582, 586, 594, 598, 772, 776, 780, 789, 800, 805, 809, 818, 827, 835, 839, 843, 847, 851, 855, 859, 319, 490, 322, 547, 535, 551, 572, 793, 831, 864, 970, 1104, 1058, 1036, 1085, 1048, 994, 1008, 1016, 1305, 1120, 1076, 973, 998, 990, 986, 1004, 977, 966, 1065, 1069, 1033, 1029, 1040, 1025, 1021, 1061, 1012, 1073, 1081, 1089, 1093, 1097, 1101, 1109, 1115, 1125, 1129, 1133, 1137, 1153, 1149, 1145, 1141, 1162, 1157, 1178, 1182, 1166, 1170, 1174, 1186, 1190, 1197, 1202, 1194, 1210, 1206, 1214, 1218, 1222, 1226, 1230, 1246, 1252, 1242, 1297, 1262, 1258, 1293, 1290, 1266, 1270, 1274, 1278, 1282, 1286, 1238, 1234, 1301, 1044, 1309, 1055, 1052, 1316, 1313, 1322, 1330, 1334, 1342, 1338, 1346, 1353, 1350, 1357, 1361, 1365, 1369, 1378, 1373, 1382, 1386, 1390, 387, 620, 630, 701, 705, 624, 634, 640, 637, 712, 709, 717, 645, 0]
theorem cod_0 : lw_tbl[403]? = some (.code yX0_isUnder cX0_isUnder 4 (some .boolean)) := by decide +kernel
theorem cod_1 : lw_tbl[393]? = some (.code yX0_growth cX0_growth 3 (some .int)) := by decide +kernel
theorem cod_2 : lw_tbl[384]? = some (.code yX0_pull cX0_pull 2 (some .int)) := by decide +kernel
theorem cod_3 : lw_tbl[396]? = some (.code yX0_worth cX0_worth 2 (some .int)) := by decide +kernel
theorem cod_4 : lw_tbl[80]? = some (.code yX1_init cX1_init 2 none) := by decide +kernel
theorem cod_5 : lw_tbl[375]? = some (.code yX1_value cX1_value 9 (some .int)) := by decide +kernel
theorem cod_6 : lw_tbl[378]? = some (.code yX1_joined cX1_joined 3 (some .int)) := by decide +kernel
theorem cod_7 : lw_tbl[122]? = some (.code yX2_init cX2_init 1 none) := by decide +kernel
theorem cod_8 : lw_tbl[590]? = some (.code yX2_takes cX2_takes 3 none) := by decide +kernel
theorem cod_9 : lw_tbl[602]? = some (.code yX2_parse cX2_parse 3 (some .int)) := by decide +kernel
theorem cod_10 : lw_tbl[606]? = some (.code yX2_next cX2_next 4 none) := by decide +kernel
theorem cod_11 : lw_tbl[610]? = some (.code yX2_sortAt cX2_sortAt 3 (some .int)) := by decide +kernel
theorem cod_12 : lw_tbl[616]? = some (.code yX2_isWord cX2_isWord 4 (some .boolean)) := by decide +kernel
theorem cod_13 : lw_tbl[756]? = some (.code yX2_isSign cX2_isSign 2 (some .boolean)) := by decide +kernel
theorem cod_14 : lw_tbl[670]? = some (.code yX2_fails cX2_fails 1 none) := by decide +kernel
theorem cod_15 : lw_tbl[763]? = some (.code yX2_signsOf cX2_signsOf 1 (some (.object "java/lang/String"))) := by decide +kernel
theorem cod_16 : lw_tbl[760]? = some (.code yX2_isSignOf cX2_isSignOf 2 (some .boolean)) := by decide +kernel
theorem cod_17 : lw_tbl[674]? = some (.code yX2_level cX2_level 6 none) := by decide +kernel
theorem cod_18 : lw_tbl[678]? = some (.code yX2_piece cX2_piece 2 none) := by decide +kernel
theorem cod_19 : lw_tbl[686]? = some (.code yX2_leaf cX2_leaf 3 none) := by decide +kernel
theorem cod_20 : lw_tbl[682]? = some (.code yX2_number cX2_number 3 (some .int)) := by decide +kernel
theorem cod_21 : lw_tbl[694]? = some (.code yX2_nameOf cX2_nameOf 3 (some .int)) := by decide +kernel
theorem cod_22 : lw_tbl[236]? = some (.code yX3_init cX3_init 1 none) := by decide +kernel
theorem cod_23 : lw_tbl[785]? = some (.code yX3_clears cX3_clears 4 none) := by decide +kernel
theorem cod_24 : lw_tbl[822]? = some (.code yX3_takesAfter cX3_takesAfter 2 none) := by decide +kernel
theorem cod_25 : lw_tbl[813]? = some (.code yX3_hasPart cX3_hasPart 3 (some .boolean)) := by decide +kernel
theorem cod_26 : lw_tbl[254]? = some (.code yX4_init cX4_init 1 none) := by decide +kernel
theorem cod_27 : lw_tbl[87]? = some (.code yX5_init cX5_init 1 none) := by decide +kernel
theorem cod_28 : lw_tbl[690]? = some (.code yX5_adds cX5_adds 2 none) := by decide +kernel
theorem cod_29 : lw_tbl[155]? = some (.code yX6_init cX6_init 3 none) := by decide +kernel
theorem cod_30 : lw_tbl[516]? = some (.code yX6_takesAfter cX6_takesAfter 2 none) := by decide +kernel
theorem cod_31 : lw_tbl[341]? = some (.code yX6_has cX6_has 2 (some .boolean)) := by decide +kernel
theorem cod_32 : lw_tbl[327]? = some (.code yX6_isFree cX6_isFree 2 (some .boolean)) := by decide +kernel
theorem cod_33 : lw_tbl[333]? = some (.code yX6_comes cX6_comes 7 (some .int)) := by decide +kernel
theorem cod_34 : lw_tbl[422]? = some (.code yX6_settle cX6_settle 3 none) := by decide +kernel
theorem cod_35 : lw_tbl[555]? = some (.code yX6_supposes cX6_supposes 4 none) := by decide +kernel
theorem cod_36 : lw_tbl[508]? = some (.code yX6_sizesTogether cX6_sizesTogether 3 (some .int)) := by decide +kernel
theorem cod_37 : lw_tbl[448]? = some (.code yX6_draw cX6_draw 1 (some .int)) := by decide +kernel
theorem cod_38 : lw_tbl[444]? = some (.code yX6_drawsOne cX6_drawsOne 6 (some .boolean)) := by decide +kernel
theorem cod_39 : lw_tbl[453]? = some (.code yX6_freeFrom cX6_freeFrom 4 (some .int)) := by decide +kernel
theorem cod_40 : lw_tbl[357]? = some (.code yX6_seenBy cX6_seenBy 4 (some .int)) := by decide +kernel
theorem cod_41 : lw_tbl[361]? = some (.code yX6_seenAlong cX6_seenAlong 9 (some .int)) := by decide +kernel
theorem cod_42 : lw_tbl[353]? = some (.code yX6_lookOf cX6_lookOf 7 (some .int)) := by decide +kernel
theorem cod_43 : lw_tbl[368]? = some (.code yX6_pullOn cX6_pullOn 8 (some .int)) := by decide +kernel
theorem cod_44 : lw_tbl[349]? = some (.code yX6_lookAll cX6_lookAll 3 none) := by decide +kernel
theorem cod_45 : lw_tbl[345]? = some (.code yX6_eyesOn cX6_eyesOn 2 (some .int)) := by decide +kernel
theorem cod_46 : lw_tbl[482]? = some (.code yX6_live cX6_live 3 none) := by decide +kernel
theorem cod_47 : lw_tbl[486]? = some (.code yX6_growAll cX6_growAll 5 none) := by decide +kernel
theorem cod_48 : lw_tbl[495]? = some (.code yX6_wander cX6_wander 4 none) := by decide +kernel
theorem cod_49 : lw_tbl[500]? = some (.code yX6_clamour cX6_clamour 3 none) := by decide +kernel
theorem cod_50 : lw_tbl[72]? = some (.code yX7_init cX7_init 2 none) := by decide +kernel
theorem cod_51 : lw_tbl[316]? = some (.code yX7_one cX7_one 7 (some .int)) := by decide +kernel
theorem cod_52 : lw_tbl[337]? = some (.code yX7_told cX7_told 3 (some .int)) := by decide +kernel
theorem cod_53 : lw_tbl[400]? = some (.code yX7_as cX7_as 3 (some .int)) := by decide +kernel
theorem cod_54 : lw_tbl[410]? = some (.code yX7_turns cX7_turns 4 (some .int)) := by decide +kernel
theorem cod_55 : lw_tbl[414]? = some (.code yX7_set cX7_set 6 (some .int)) := by decide +kernel
theorem cod_56 : lw_tbl[418]? = some (.code yX7_moves cX7_moves 4 (some .int)) := by decide +kernel
theorem cod_57 : lw_tbl[426]? = some (.code yX7_screen cX7_screen 4 (some .int)) := by decide +kernel
theorem cod_58 : lw_tbl[430]? = some (.code yX7_at cX7_at 2 (some .int)) := by decide +kernel
theorem cod_59 : lw_tbl[435]? = some (.code yX7_rule cX7_rule 4 (some .int)) := by decide +kernel
theorem cod_60 : lw_tbl[439]? = some (.code yX7_deal cX7_deal 4 (some .int)) := by decide +kernel
theorem cod_61 : lw_tbl[459]? = some (.code yX7_seed cX7_seed 3 (some .int)) := by decide +kernel
theorem cod_62 : lw_tbl[463]? = some (.code yX7_looks cX7_looks 3 (some .int)) := by decide +kernel
theorem cod_63 : lw_tbl[468]? = some (.code yX7_eyes cX7_eyes 2 (some .int)) := by decide +kernel
theorem cod_64 : lw_tbl[473]? = some (.code yX7_sees cX7_sees 2 (some .int)) := by decide +kernel
theorem cod_65 : lw_tbl[478]? = some (.code yX7_days cX7_days 3 (some .int)) := by decide +kernel
theorem cod_66 : lw_tbl[504]? = some (.code yX7_town cX7_town 2 (some .int)) := by decide +kernel
theorem cod_67 : lw_tbl[512]? = some (.code yX7_curtain cX7_curtain 7 (some .int)) := by decide +kernel
theorem cod_68 : lw_tbl[523]? = some (.code yX7_seat cX7_seat 7 (some .int)) := by decide +kernel
theorem cod_69 : lw_tbl[527]? = some (.code yX7_behind cX7_behind 3 (some .int)) := by decide +kernel
theorem cod_70 : lw_tbl[531]? = some (.code yX7_vanishes cX7_vanishes 2 (some .int)) := by decide +kernel
theorem cod_71 : lw_tbl[539]? = some (.code yX7_bumps cX7_bumps 2 (some .int)) := by decide +kernel
theorem cod_72 : lw_tbl[543]? = some (.code yX7_loud cX7_loud 4 (some .int)) := by decide +kernel
theorem cod_73 : lw_tbl[559]? = some (.code yX7_loved cX7_loved 4 (some .int)) := by decide +kernel
theorem cod_74 : lw_tbl[563]? = some (.code yX7_becomes cX7_becomes 4 (some .int)) := by decide +kernel
theorem cod_75 : lw_tbl[567]? = some (.code yX7_like cX7_like 5 (some .int)) := by decide +kernel
theorem cod_76 : lw_tbl[577]? = some (.code yX7_fee cX7_fee 2 (some .int)) := by decide +kernel
theorem cod_77 : lw_tbl[582]? = some (.code yX7_fine cX7_fine 3 (some .int)) := by decide +kernel
theorem cod_78 : lw_tbl[586]? = some (.code yX7_feed cX7_feed 4 (some .int)) := by decide +kernel
theorem cod_79 : lw_tbl[594]? = some (.code yX7_trim cX7_trim 2 (some .int)) := by decide +kernel
theorem cod_80 : lw_tbl[598]? = some (.code yX7_text cX7_text 4 (some .int)) := by decide +kernel
theorem cod_81 : lw_tbl[772]? = some (.code yX7_textTold cX7_textTold 3 (some .int)) := by decide +kernel
theorem cod_82 : lw_tbl[776]? = some (.code yX7_why cX7_why 2 (some .int)) := by decide +kernel
theorem cod_83 : lw_tbl[780]? = some (.code yX7_sheet cX7_sheet 5 (some .int)) := by decide +kernel
theorem cod_84 : lw_tbl[789]? = some (.code yX7_mark cX7_mark 6 (some .int)) := by decide +kernel
theorem cod_85 : lw_tbl[800]? = some (.code yX7_pour cX7_pour 7 (some .int)) := by decide +kernel
theorem cod_86 : lw_tbl[805]? = some (.code yX7_reads cX7_reads 6 (some .int)) := by decide +kernel
theorem cod_87 : lw_tbl[809]? = some (.code yX7_copy cX7_copy 8 (some .int)) := by decide +kernel
theorem cod_88 : lw_tbl[818]? = some (.code yX7_lay cX7_lay 6 (some .int)) := by decide +kernel
theorem cod_89 : lw_tbl[827]? = some (.code yX7_ask cX7_ask 5 (some .int)) := by decide +kernel
theorem cod_90 : lw_tbl[835]? = some (.code yX7_item cX7_item 5 (some .int)) := by decide +kernel
theorem cod_91 : lw_tbl[839]? = some (.code yX7_rest cX7_rest 4 (some .int)) := by decide +kernel
theorem cod_92 : lw_tbl[843]? = some (.code yX7_tell cX7_tell 2 (some .int)) := by decide +kernel
theorem cod_93 : lw_tbl[847]? = some (.code yX7_check cX7_check 6 (some .int)) := by decide +kernel
theorem cod_94 : lw_tbl[851]? = some (.code yX7_keep cX7_keep 1 (some .int)) := by decide +kernel
theorem cod_95 : lw_tbl[855]? = some (.code yX7_back cX7_back 1 (some .int)) := by decide +kernel
theorem cod_96 : lw_tbl[859]? = some (.code yX7_count cX7_count 2 (some .int)) := by decide +kernel
theorem cod_97 : lw_tbl[319]? = some (.code yX7_isWithin cX7_isWithin 3 (some .boolean)) := by decide +kernel
theorem cod_98 : lw_tbl[490]? = some (.code yX7_held cX7_held 3 (some .int)) := by decide +kernel
theorem cod_99 : lw_tbl[322]? = some (.code yX7_isValue cX7_isValue 2 (some .boolean)) := by decide +kernel
theorem cod_100 : lw_tbl[547]? = some (.code yX7_isSupposable cX7_isSupposable 4 (some .boolean)) := by decide +kernel
theorem cod_101 : lw_tbl[535]? = some (.code yX7_firstDay cX7_firstDay 5 (some .int)) := by decide +kernel
theorem cod_102 : lw_tbl[551]? = some (.code yX7_tallest cX7_tallest 10 (some .int)) := by decide +kernel
theorem cod_103 : lw_tbl[572]? = some (.code yX7_addDifferences cX7_addDifferences 4 none) := by decide +kernel
theorem cod_104 : lw_tbl[793]? = some (.code yX7_sheetFinding cX7_sheetFinding 2 (some .int)) := by decide +kernel
theorem cod_105 : lw_tbl[831]? = some (.code yX7_slotFinding cX7_slotFinding 3 (some .int)) := by decide +kernel
theorem cod_106 : lw_tbl[864]? = some (.code yX8_init cX8_init 2 none) := by decide +kernel
theorem cod_107 : lw_tbl[970]? = some (.code yX8_isIn cX8_isIn 6 (some .boolean)) := by decide +kernel
theorem cod_108 : lw_tbl[1104]? = some (.code yX8_orNone cX8_orNone 1 (some .int)) := by decide +kernel
theorem cod_109 : lw_tbl[1058]? = some (.code yX8_within cX8_within 2 (some .int)) := by decide +kernel
theorem cod_110 : lw_tbl[1036]? = some (.code yX8_off cX8_off 2 (some .int)) := by decide +kernel
theorem cod_111 : lw_tbl[1085]? = some (.code yX8_changes cX8_changes 4 (some .int)) := by decide +kernel
theorem cod_112 : lw_tbl[1048]? = some (.code yX8_textAt cX8_textAt 2 (some .int)) := by decide +kernel
theorem cod_113 : lw_tbl[994]? = some (.code yX8_of cX8_of 3 (some .int)) := by decide +kernel
theorem cod_114 : lw_tbl[1008]? = some (.code yX8_sets cX8_sets 4 none) := by decide +kernel
theorem cod_115 : lw_tbl[1016]? = some (.code yX8_isOne cX8_isOne 2 (some .boolean)) := by decide +kernel
theorem cod_116 : lw_tbl[1305]? = some (.code yX8_isText cX8_isText 2 (some .boolean)) := by decide +kernel
theorem cod_117 : lw_tbl[1120]? = some (.code yX8_drawn cX8_drawn 1 (some .int)) := by decide +kernel
theorem cod_118 : lw_tbl[1076]? = some (.code yX8_isOf cX8_isOf 2 (some .boolean)) := by decide +kernel
theorem cod_119 : lw_tbl[973]? = some (.code yX8_isPlace cX8_isPlace 1 (some .boolean)) := by decide +kernel
theorem cod_120 : lw_tbl[998]? = some (.code yX8_isScreen cX8_isScreen 2 (some .boolean)) := by decide +kernel
theorem cod_121 : lw_tbl[990]? = some (.code yX8_whose cX8_whose 3 (some .int)) := by decide +kernel
theorem cod_122 : lw_tbl[986]? = some (.code yX8_isFree cX8_isFree 2 (some .boolean)) := by decide +kernel
theorem cod_123 : lw_tbl[1004]? = some (.code yX8_comes cX8_comes 7 none) := by decide +kernel
theorem cod_124 : lw_tbl[977]? = some (.code yX8_isOneSo cX8_isOneSo 3 (some .boolean)) := by decide +kernel
theorem cod_125 : lw_tbl[966]? = some (.code yX8_one cX8_one 6 (some .int)) := by decide +kernel
theorem cod_126 : lw_tbl[1065]? = some (.code yX8_grows cX8_grows 4 (some .int)) := by decide +kernel
theorem cod_127 : lw_tbl[1069]? = some (.code yX8_worth cX8_worth 3 (some .int)) := by decide +kernel
theorem cod_128 : lw_tbl[1033]? = some (.code yX8_isClear cX8_isClear 10 (some .boolean)) := by decide +kernel
theorem cod_129 : lw_tbl[1029]? = some (.code yX8_doesSee cX8_doesSee 5 (some .boolean)) := by decide +kernel
theorem cod_130 : lw_tbl[1040]? = some (.code yX8_pulls cX8_pulls 5 (some .int)) := by decide +kernel
theorem cod_131 : lw_tbl[1025]? = some (.code yX8_looksAt cX8_looksAt 8 (some .int)) := by decide +kernel
theorem cod_132 : lw_tbl[1021]? = some (.code yX8_eyesOf cX8_eyesOf 4 (some .int)) := by decide +kernel
theorem cod_133 : lw_tbl[1061]? = some (.code yX8_many cX8_many 3 (some .int)) := by decide +kernel
theorem cod_134 : lw_tbl[1012]? = some (.code yX8_told cX8_told 3 (some .int)) := by decide +kernel
theorem cod_135 : lw_tbl[1073]? = some (.code yX8_as cX8_as 3 (some .int)) := by decide +kernel
theorem cod_136 : lw_tbl[1081]? = some (.code yX8_turns cX8_turns 3 (some .int)) := by decide +kernel
theorem cod_137 : lw_tbl[1089]? = some (.code yX8_set cX8_set 5 (some .int)) := by decide +kernel
theorem cod_138 : lw_tbl[1093]? = some (.code yX8_moves cX8_moves 3 (some .int)) := by decide +kernel
theorem cod_139 : lw_tbl[1097]? = some (.code yX8_screen cX8_screen 4 (some .int)) := by decide +kernel
theorem cod_140 : lw_tbl[1101]? = some (.code yX8_at cX8_at 2 (some .int)) := by decide +kernel
theorem cod_141 : lw_tbl[1109]? = some (.code yX8_rule cX8_rule 3 (some .int)) := by decide +kernel
theorem cod_142 : lw_tbl[1115]? = some (.code yX8_deal cX8_deal 10 (some .int)) := by decide +kernel
theorem cod_143 : lw_tbl[1125]? = some (.code yX8_seed cX8_seed 2 (some .int)) := by decide +kernel
theorem cod_144 : lw_tbl[1129]? = some (.code yX8_looks cX8_looks 2 (some .int)) := by decide +kernel
theorem cod_145 : lw_tbl[1133]? = some (.code yX8_eyes cX8_eyes 2 (some .int)) := by decide +kernel
theorem cod_146 : lw_tbl[1137]? = some (.code yX8_sees cX8_sees 4 (some .int)) := by decide +kernel
theorem cod_147 : lw_tbl[1153]? = some (.code yX8_allLook cX8_allLook 3 none) := by decide +kernel
theorem cod_148 : lw_tbl[1149]? = some (.code yX8_goesOn cX8_goesOn 4 none) := by decide +kernel
theorem cod_149 : lw_tbl[1145]? = some (.code yX8_goesOnMany cX8_goesOnMany 3 none) := by decide +kernel
theorem cod_150 : lw_tbl[1141]? = some (.code yX8_days cX8_days 4 (some .int)) := by decide +kernel
theorem cod_151 : lw_tbl[1162]? = some (.code yX8_sizes cX8_sizes 3 (some .int)) := by decide +kernel
theorem cod_152 : lw_tbl[1157]? = some (.code yX8_town cX8_town 2 (some .int)) := by decide +kernel
theorem cod_153 : lw_tbl[1178]? = some (.code yX8_laysBy cX8_laysBy 2 none) := by decide +kernel
theorem cod_154 : lw_tbl[1182]? = some (.code yX8_laysBack cX8_laysBack 2 none) := by decide +kernel
theorem cod_155 : lw_tbl[1166]? = some (.code yX8_curtain cX8_curtain 8 (some .int)) := by decide +kernel
theorem cod_156 : lw_tbl[1170]? = some (.code yX8_seat cX8_seat 8 (some .int)) := by decide +kernel
theorem cod_157 : lw_tbl[1174]? = some (.code yX8_behind cX8_behind 4 (some .int)) := by decide +kernel
theorem cod_158 : lw_tbl[1186]? = some (.code yX8_vanishes cX8_vanishes 3 (some .int)) := by decide +kernel
theorem cod_159 : lw_tbl[1190]? = some (.code yX8_bumps cX8_bumps 3 (some .int)) := by decide +kernel
theorem cod_160 : lw_tbl[1197]? = some (.code yX8_isAsked cX8_isAsked 2 (some .boolean)) := by decide +kernel
theorem cod_161 : lw_tbl[1202]? = some (.code yX8_tallest cX8_tallest 11 (some .int)) := by decide +kernel
theorem cod_162 : lw_tbl[1194]? = some (.code yX8_loud cX8_loud 4 (some .int)) := by decide +kernel
theorem cod_163 : lw_tbl[1210]? = some (.code yX8_lovedMost cX8_lovedMost 8 (some .int)) := by decide +kernel
theorem cod_164 : lw_tbl[1206]? = some (.code yX8_loved cX8_loved 4 (some .int)) := by decide +kernel
theorem cod_165 : lw_tbl[1214]? = some (.code yX8_becomes cX8_becomes 4 (some .int)) := by decide +kernel
theorem cod_166 : lw_tbl[1218]? = some (.code yX8_fee cX8_fee 2 (some .int)) := by decide +kernel
theorem cod_167 : lw_tbl[1222]? = some (.code yX8_fine cX8_fine 3 (some .int)) := by decide +kernel
theorem cod_168 : lw_tbl[1226]? = some (.code yX8_feed cX8_feed 6 (some .int)) := by decide +kernel
theorem cod_169 : lw_tbl[1230]? = some (.code yX8_trim cX8_trim 2 (some .int)) := by decide +kernel
theorem cod_170 : lw_tbl[1246]? = some (.code yX8_isLetter cX8_isLetter 2 (some .boolean)) := by decide +kernel
theorem cod_171 : lw_tbl[1252]? = some (.code yX8_isDigit cX8_isDigit 2 (some .boolean)) := by decide +kernel
theorem cod_172 : lw_tbl[1242]? = some (.code yX8_nextToken cX8_nextToken 3 none) := by decide +kernel
theorem cod_173 : lw_tbl[1297]? = some (.code yX8_isSign cX8_isSign 2 (some .boolean)) := by decide +kernel
theorem cod_174 : lw_tbl[1262]? = some (.code yX8_isWordAt cX8_isWordAt 6 (some .boolean)) := by decide +kernel
theorem cod_175 : lw_tbl[1258]? = some (.code yX8_key cX8_key 1 (some .int)) := by decide +kernel
theorem cod_176 : lw_tbl[1293]? = some (.code yX8_isName cX8_isName 2 (some .boolean)) := by decide +kernel
theorem cod_177 : lw_tbl[1290]? = some (.code yX8_step cX8_step 3 none) := by decide +kernel
theorem cod_178 : lw_tbl[1266]? = some (.code yX8_either cX8_either 2 (some .boolean)) := by decide +kernel
theorem cod_179 : lw_tbl[1270]? = some (.code yX8_both cX8_both 2 (some .boolean)) := by decide +kernel
theorem cod_180 : lw_tbl[1274]? = some (.code yX8_test cX8_test 3 (some .boolean)) := by decide +kernel
theorem cod_181 : lw_tbl[1278]? = some (.code yX8_sum cX8_sum 3 (some .boolean)) := by decide +kernel
theorem cod_182 : lw_tbl[1282]? = some (.code yX8_term cX8_term 3 (some .boolean)) := by decide +kernel
theorem cod_183 : lw_tbl[1286]? = some (.code yX8_part0 cX8_part0 2 (some .boolean)) := by decide +kernel
theorem cod_184 : lw_tbl[1238]? = some (.code yX8_parse cX8_parse 3 (some .int)) := by decide +kernel
theorem cod_185 : lw_tbl[1234]? = some (.code yX8_text cX8_text 3 (some .int)) := by decide +kernel
theorem cod_186 : lw_tbl[1301]? = some (.code yX8_textTold cX8_textTold 3 (some .int)) := by decide +kernel
theorem cod_187 : lw_tbl[1044]? = some (.code yX8_counts cX8_counts 4 (some .int)) := by decide +kernel
theorem cod_188 : lw_tbl[1309]? = some (.code yX8_why cX8_why 2 (some .int)) := by decide +kernel
theorem cod_189 : lw_tbl[1055]? = some (.code yX8_joined cX8_joined 3 (some .int)) := by decide +kernel
theorem cod_190 : lw_tbl[1052]? = some (.code yX8_worked cX8_worked 6 (some .int)) := by decide +kernel
theorem cod_191 : lw_tbl[1316]? = some (.code yX8_isSheet cX8_isSheet 1 (some .boolean)) := by decide +kernel
theorem cod_192 : lw_tbl[1313]? = some (.code yX8_sheet cX8_sheet 5 (some .int)) := by decide +kernel
theorem cod_193 : lw_tbl[1322]? = some (.code yX8_mark cX8_mark 4 (some .int)) := by decide +kernel
theorem cod_194 : lw_tbl[1330]? = some (.code yX8_pour cX8_pour 6 (some .int)) := by decide +kernel
theorem cod_195 : lw_tbl[1334]? = some (.code yX8_reads cX8_reads 4 (some .int)) := by decide +kernel
theorem cod_196 : lw_tbl[1342]? = some (.code yX8_offBy cX8_offBy 6 (some .int)) := by decide +kernel
theorem cod_197 : lw_tbl[1338]? = some (.code yX8_like cX8_like 7 (some .int)) := by decide +kernel
theorem cod_198 : lw_tbl[1346]? = some (.code yX8_copy cX8_copy 7 (some .int)) := by decide +kernel
theorem cod_199 : lw_tbl[1353]? = some (.code yX8_isSlot cX8_isSlot 1 (some .boolean)) := by decide +kernel
theorem cod_200 : lw_tbl[1350]? = some (.code yX8_lay cX8_lay 7 (some .int)) := by decide +kernel
theorem cod_201 : lw_tbl[1357]? = some (.code yX8_ask cX8_ask 3 (some .int)) := by decide +kernel
theorem cod_202 : lw_tbl[1361]? = some (.code yX8_item cX8_item 4 (some .int)) := by decide +kernel
theorem cod_203 : lw_tbl[1365]? = some (.code yX8_rest cX8_rest 3 (some .int)) := by decide +kernel
theorem cod_204 : lw_tbl[1369]? = some (.code yX8_tell cX8_tell 2 (some .int)) := by decide +kernel
theorem cod_205 : lw_tbl[1378]? = some (.code yX8_setAside cX8_setAside 4 none) := by decide +kernel
theorem cod_206 : lw_tbl[1373]? = some (.code yX8_check cX8_check 5 (some .int)) := by decide +kernel
theorem cod_207 : lw_tbl[1382]? = some (.code yX8_keep cX8_keep 1 (some .int)) := by decide +kernel
theorem cod_208 : lw_tbl[1386]? = some (.code yX8_back cX8_back 1 (some .int)) := by decide +kernel
theorem cod_209 : lw_tbl[1390]? = some (.code yX8_count cX8_count 2 (some .int)) := by decide +kernel
theorem cod_210 : lw_tbl[387]? = some (.code yJ6_bitCount_0f7a4 cJ6_bitCount_0f7a4 1 (some .int)) := by decide +kernel
theorem cod_211 : lw_tbl[620]? = some (.code yJ0_length_8abf5 cJ0_length_8abf5 1 (some .int)) := by decide +kernel
theorem cod_212 : lw_tbl[630]? = some (.code yJ0_charAt_5068e cJ0_charAt_5068e 2 (some .char)) := by decide +kernel
theorem cod_213 : lw_tbl[701]? = some (.code yJ0_indexOf_0f7a4 cJ0_indexOf_0f7a4 2 (some .int)) := by decide +kernel
theorem cod_214 : lw_tbl[705]? = some (.code yJ0_indexOf_7cf53 cJ0_indexOf_7cf53 3 (some .int)) := by decide +kernel
theorem cod_215 : lw_tbl[624]? = some (.code yJ0_coder_7d493 cJ0_coder_7d493 1 (some .byte)) := by decide +kernel
theorem cod_216 : lw_tbl[634]? = some (.code yJ0_isLatin1_aae02 cJ0_isLatin1_aae02 1 (some .boolean)) := by decide +kernel
theorem cod_217 : lw_tbl[640]? = some (.code yJ0_checkIndex_df160 cJ0_checkIndex_df160 2 none) := by decide +kernel
theorem cod_218 : lw_tbl[637]? = some (.code yJ1_charAt_3b067 cJ1_charAt_3b067 2 (some .char)) := by decide +kernel
theorem cod_219 : lw_tbl[712]? = some (.code yJ1_canEncode_9a6ad cJ1_canEncode_9a6ad 1 (some .boolean)) := by decide +kernel
theorem cod_220 : lw_tbl[709]? = some (.code yJ1_indexOf_4cfef cJ1_indexOf_4cfef 4 (some .int)) := by decide +kernel
theorem cod_221 : lw_tbl[717]? = some (.code yJ1_indexOfChar_4cfef cJ1_indexOfChar_4cfef 6 (some .int)) := by decide +kernel
theorem cod_222 : lw_tbl[645]? = some (.code yJ3_checkIndex_8e157 cJ3_checkIndex_8e157 3 (some .int)) := by decide +kernel
def codL : List Nat := List.range 223
theorem chk_law : mthT.all (fun e => decide (e.2.2.1 < 223)) = true := by decide +kernel
theorem cod_ok : ∀ {k : Nat} {y : aMt}, k < 223 → mtb[k]? = some y → Cond.code y.1 y.2.1 y.2.2.1 y.2.2.2.1 ∈ gtb := by
  intro k y hk h
  match k, hk, h with
  | 0, _, h => cases h; exact gtb_in cod_0 rfl
  | 1, _, h => cases h; exact gtb_in cod_1 rfl
  | 2, _, h => cases h; exact gtb_in cod_2 rfl
  | 3, _, h => cases h; exact gtb_in cod_3 rfl
  | 4, _, h => cases h; exact gtb_in cod_4 rfl
  | 5, _, h => cases h; exact gtb_in cod_5 rfl
  | 6, _, h => cases h; exact gtb_in cod_6 rfl
  | 7, _, h => cases h; exact gtb_in cod_7 rfl
  | 8, _, h => cases h; exact gtb_in cod_8 rfl
  | 9, _, h => cases h; exact gtb_in cod_9 rfl
  | 10, _, h => cases h; exact gtb_in cod_10 rfl
  | 11, _, h => cases h; exact gtb_in cod_11 rfl
  | 12, _, h => cases h; exact gtb_in cod_12 rfl
  | 13, _, h => cases h; exact gtb_in cod_13 rfl
  | 14, _, h => cases h; exact gtb_in cod_14 rfl
  | 15, _, h => cases h; exact gtb_in cod_15 rfl
  | 16, _, h => cases h; exact gtb_in cod_16 rfl
  | 17, _, h => cases h; exact gtb_in cod_17 rfl
  | 18, _, h => cases h; exact gtb_in cod_18 rfl
  | 19, _, h => cases h; exact gtb_in cod_19 rfl
  | 20, _, h => cases h; exact gtb_in cod_20 rfl
  | 21, _, h => cases h; exact gtb_in cod_21 rfl
  | 22, _, h => cases h; exact gtb_in cod_22 rfl
  | 23, _, h => cases h; exact gtb_in cod_23 rfl
  | 24, _, h => cases h; exact gtb_in cod_24 rfl
  | 25, _, h => cases h; exact gtb_in cod_25 rfl
  | 26, _, h => cases h; exact gtb_in cod_26 rfl
  | 27, _, h => cases h; exact gtb_in cod_27 rfl
  | 28, _, h => cases h; exact gtb_in cod_28 rfl
  | 29, _, h => cases h; exact gtb_in cod_29 rfl
  | 30, _, h => cases h; exact gtb_in cod_30 rfl
  | 31, _, h => cases h; exact gtb_in cod_31 rfl
  | 32, _, h => cases h; exact gtb_in cod_32 rfl
  | 33, _, h => cases h; exact gtb_in cod_33 rfl
  | 34, _, h => cases h; exact gtb_in cod_34 rfl
  | 35, _, h => cases h; exact gtb_in cod_35 rfl
  | 36, _, h => cases h; exact gtb_in cod_36 rfl
  | 37, _, h => cases h; exact gtb_in cod_37 rfl
  | 38, _, h => cases h; exact gtb_in cod_38 rfl
  | 39, _, h => cases h; exact gtb_in cod_39 rfl
  | 40, _, h => cases h; exact gtb_in cod_40 rfl
  | 41, _, h => cases h; exact gtb_in cod_41 rfl
  | 42, _, h => cases h; exact gtb_in cod_42 rfl
  | 43, _, h => cases h; exact gtb_in cod_43 rfl
  | 44, _, h => cases h; exact gtb_in cod_44 rfl
  | 45, _, h => cases h; exact gtb_in cod_45 rfl
  | 46, _, h => cases h; exact gtb_in cod_46 rfl
  | 47, _, h => cases h; exact gtb_in cod_47 rfl
  | 48, _, h => cases h; exact gtb_in cod_48 rfl
  | 49, _, h => cases h; exact gtb_in cod_49 rfl
  | 50, _, h => cases h; exact gtb_in cod_50 rfl
  | 51, _, h => cases h; exact gtb_in cod_51 rfl
  | 52, _, h => cases h; exact gtb_in cod_52 rfl
  | 53, _, h => cases h; exact gtb_in cod_53 rfl
  | 54, _, h => cases h; exact gtb_in cod_54 rfl
  | 55, _, h => cases h; exact gtb_in cod_55 rfl
  | 56, _, h => cases h; exact gtb_in cod_56 rfl
  | 57, _, h => cases h; exact gtb_in cod_57 rfl
  | 58, _, h => cases h; exact gtb_in cod_58 rfl
  | 59, _, h => cases h; exact gtb_in cod_59 rfl
  | 60, _, h => cases h; exact gtb_in cod_60 rfl
  | 61, _, h => cases h; exact gtb_in cod_61 rfl
  | 62, _, h => cases h; exact gtb_in cod_62 rfl
  | 63, _, h => cases h; exact gtb_in cod_63 rfl
  | 64, _, h => cases h; exact gtb_in cod_64 rfl
  | 65, _, h => cases h; exact gtb_in cod_65 rfl
  | 66, _, h => cases h; exact gtb_in cod_66 rfl
  | 67, _, h => cases h; exact gtb_in cod_67 rfl
  | 68, _, h => cases h; exact gtb_in cod_68 rfl
  | 69, _, h => cases h; exact gtb_in cod_69 rfl
  | 70, _, h => cases h; exact gtb_in cod_70 rfl
  | 71, _, h => cases h; exact gtb_in cod_71 rfl
  | 72, _, h => cases h; exact gtb_in cod_72 rfl
  | 73, _, h => cases h; exact gtb_in cod_73 rfl
  | 74, _, h => cases h; exact gtb_in cod_74 rfl
  | 75, _, h => cases h; exact gtb_in cod_75 rfl
  | 76, _, h => cases h; exact gtb_in cod_76 rfl
  | 77, _, h => cases h; exact gtb_in cod_77 rfl
  | 78, _, h => cases h; exact gtb_in cod_78 rfl
  | 79, _, h => cases h; exact gtb_in cod_79 rfl
  | 80, _, h => cases h; exact gtb_in cod_80 rfl
  | 81, _, h => cases h; exact gtb_in cod_81 rfl
  | 82, _, h => cases h; exact gtb_in cod_82 rfl
  | 83, _, h => cases h; exact gtb_in cod_83 rfl
  | 84, _, h => cases h; exact gtb_in cod_84 rfl
  | 85, _, h => cases h; exact gtb_in cod_85 rfl
  | 86, _, h => cases h; exact gtb_in cod_86 rfl
  | 87, _, h => cases h; exact gtb_in cod_87 rfl
  | 88, _, h => cases h; exact gtb_in cod_88 rfl
  | 89, _, h => cases h; exact gtb_in cod_89 rfl
  | 90, _, h => cases h; exact gtb_in cod_90 rfl
  | 91, _, h => cases h; exact gtb_in cod_91 rfl
  | 92, _, h => cases h; exact gtb_in cod_92 rfl
  | 93, _, h => cases h; exact gtb_in cod_93 rfl
  | 94, _, h => cases h; exact gtb_in cod_94 rfl
  | 95, _, h => cases h; exact gtb_in cod_95 rfl
  | 96, _, h => cases h; exact gtb_in cod_96 rfl
  | 97, _, h => cases h; exact gtb_in cod_97 rfl
  | 98, _, h => cases h; exact gtb_in cod_98 rfl
  | 99, _, h => cases h; exact gtb_in cod_99 rfl
  | 100, _, h => cases h; exact gtb_in cod_100 rfl
  | 101, _, h => cases h; exact gtb_in cod_101 rfl
  | 102, _, h => cases h; exact gtb_in cod_102 rfl
  | 103, _, h => cases h; exact gtb_in cod_103 rfl
  | 104, _, h => cases h; exact gtb_in cod_104 rfl
  | 105, _, h => cases h; exact gtb_in cod_105 rfl
  | 106, _, h => cases h; exact gtb_in cod_106 rfl
  | 107, _, h => cases h; exact gtb_in cod_107 rfl
  | 108, _, h => cases h; exact gtb_in cod_108 rfl
  | 109, _, h => cases h; exact gtb_in cod_109 rfl
  | 110, _, h => cases h; exact gtb_in cod_110 rfl
  | 111, _, h => cases h; exact gtb_in cod_111 rfl
  | 112, _, h => cases h; exact gtb_in cod_112 rfl
  | 113, _, h => cases h; exact gtb_in cod_113 rfl
  | 114, _, h => cases h; exact gtb_in cod_114 rfl
  | 115, _, h => cases h; exact gtb_in cod_115 rfl
  | 116, _, h => cases h; exact gtb_in cod_116 rfl
  | 117, _, h => cases h; exact gtb_in cod_117 rfl
  | 118, _, h => cases h; exact gtb_in cod_118 rfl
  | 119, _, h => cases h; exact gtb_in cod_119 rfl
  | 120, _, h => cases h; exact gtb_in cod_120 rfl
  | 121, _, h => cases h; exact gtb_in cod_121 rfl
  | 122, _, h => cases h; exact gtb_in cod_122 rfl
  | 123, _, h => cases h; exact gtb_in cod_123 rfl
  | 124, _, h => cases h; exact gtb_in cod_124 rfl
  | 125, _, h => cases h; exact gtb_in cod_125 rfl
  | 126, _, h => cases h; exact gtb_in cod_126 rfl
  | 127, _, h => cases h; exact gtb_in cod_127 rfl
  | 128, _, h => cases h; exact gtb_in cod_128 rfl
  | 129, _, h => cases h; exact gtb_in cod_129 rfl
  | 130, _, h => cases h; exact gtb_in cod_130 rfl
  | 131, _, h => cases h; exact gtb_in cod_131 rfl
  | 132, _, h => cases h; exact gtb_in cod_132 rfl
  | 133, _, h => cases h; exact gtb_in cod_133 rfl
  | 134, _, h => cases h; exact gtb_in cod_134 rfl
  | 135, _, h => cases h; exact gtb_in cod_135 rfl
  | 136, _, h => cases h; exact gtb_in cod_136 rfl
  | 137, _, h => cases h; exact gtb_in cod_137 rfl
  | 138, _, h => cases h; exact gtb_in cod_138 rfl
  | 139, _, h => cases h; exact gtb_in cod_139 rfl
  | 140, _, h => cases h; exact gtb_in cod_140 rfl
  | 141, _, h => cases h; exact gtb_in cod_141 rfl
  | 142, _, h => cases h; exact gtb_in cod_142 rfl
  | 143, _, h => cases h; exact gtb_in cod_143 rfl
  | 144, _, h => cases h; exact gtb_in cod_144 rfl
  | 145, _, h => cases h; exact gtb_in cod_145 rfl
  | 146, _, h => cases h; exact gtb_in cod_146 rfl
  | 147, _, h => cases h; exact gtb_in cod_147 rfl
  | 148, _, h => cases h; exact gtb_in cod_148 rfl
  | 149, _, h => cases h; exact gtb_in cod_149 rfl
  | 150, _, h => cases h; exact gtb_in cod_150 rfl
  | 151, _, h => cases h; exact gtb_in cod_151 rfl
  | 152, _, h => cases h; exact gtb_in cod_152 rfl
  | 153, _, h => cases h; exact gtb_in cod_153 rfl
  | 154, _, h => cases h; exact gtb_in cod_154 rfl
  | 155, _, h => cases h; exact gtb_in cod_155 rfl
  | 156, _, h => cases h; exact gtb_in cod_156 rfl
  | 157, _, h => cases h; exact gtb_in cod_157 rfl
  | 158, _, h => cases h; exact gtb_in cod_158 rfl
  | 159, _, h => cases h; exact gtb_in cod_159 rfl
  | 160, _, h => cases h; exact gtb_in cod_160 rfl
  | 161, _, h => cases h; exact gtb_in cod_161 rfl
  | 162, _, h => cases h; exact gtb_in cod_162 rfl
  | 163, _, h => cases h; exact gtb_in cod_163 rfl
  | 164, _, h => cases h; exact gtb_in cod_164 rfl
  | 165, _, h => cases h; exact gtb_in cod_165 rfl
  | 166, _, h => cases h; exact gtb_in cod_166 rfl
  | 167, _, h => cases h; exact gtb_in cod_167 rfl
  | 168, _, h => cases h; exact gtb_in cod_168 rfl
  | 169, _, h => cases h; exact gtb_in cod_169 rfl
  | 170, _, h => cases h; exact gtb_in cod_170 rfl
  | 171, _, h => cases h; exact gtb_in cod_171 rfl
  | 172, _, h => cases h; exact gtb_in cod_172 rfl
  | 173, _, h => cases h; exact gtb_in cod_173 rfl
  | 174, _, h => cases h; exact gtb_in cod_174 rfl
  | 175, _, h => cases h; exact gtb_in cod_175 rfl
  | 176, _, h => cases h; exact gtb_in cod_176 rfl
  | 177, _, h => cases h; exact gtb_in cod_177 rfl
  | 178, _, h => cases h; exact gtb_in cod_178 rfl
  | 179, _, h => cases h; exact gtb_in cod_179 rfl
  | 180, _, h => cases h; exact gtb_in cod_180 rfl
  | 181, _, h => cases h; exact gtb_in cod_181 rfl
  | 182, _, h => cases h; exact gtb_in cod_182 rfl
  | 183, _, h => cases h; exact gtb_in cod_183 rfl
  | 184, _, h => cases h; exact gtb_in cod_184 rfl
  | 185, _, h => cases h; exact gtb_in cod_185 rfl
  | 186, _, h => cases h; exact gtb_in cod_186 rfl
  | 187, _, h => cases h; exact gtb_in cod_187 rfl
  | 188, _, h => cases h; exact gtb_in cod_188 rfl
  | 189, _, h => cases h; exact gtb_in cod_189 rfl
  | 190, _, h => cases h; exact gtb_in cod_190 rfl
  | 191, _, h => cases h; exact gtb_in cod_191 rfl
  | 192, _, h => cases h; exact gtb_in cod_192 rfl
  | 193, _, h => cases h; exact gtb_in cod_193 rfl
  | 194, _, h => cases h; exact gtb_in cod_194 rfl
  | 195, _, h => cases h; exact gtb_in cod_195 rfl
  | 196, _, h => cases h; exact gtb_in cod_196 rfl
  | 197, _, h => cases h; exact gtb_in cod_197 rfl
  | 198, _, h => cases h; exact gtb_in cod_198 rfl
  | 199, _, h => cases h; exact gtb_in cod_199 rfl
  | 200, _, h => cases h; exact gtb_in cod_200 rfl
  | 201, _, h => cases h; exact gtb_in cod_201 rfl
  | 202, _, h => cases h; exact gtb_in cod_202 rfl
  | 203, _, h => cases h; exact gtb_in cod_203 rfl
  | 204, _, h => cases h; exact gtb_in cod_204 rfl
  | 205, _, h => cases h; exact gtb_in cod_205 rfl
  | 206, _, h => cases h; exact gtb_in cod_206 rfl
  | 207, _, h => cases h; exact gtb_in cod_207 rfl
  | 208, _, h => cases h; exact gtb_in cod_208 rfl
  | 209, _, h => cases h; exact gtb_in cod_209 rfl
  | 210, _, h => cases h; exact gtb_in cod_210 rfl
  | 211, _, h => cases h; exact gtb_in cod_211 rfl
  | 212, _, h => cases h; exact gtb_in cod_212 rfl
  | 213, _, h => cases h; exact gtb_in cod_213 rfl
  | 214, _, h => cases h; exact gtb_in cod_214 rfl
  | 215, _, h => cases h; exact gtb_in cod_215 rfl
  | 216, _, h => cases h; exact gtb_in cod_216 rfl
  | 217, _, h => cases h; exact gtb_in cod_217 rfl
  | 218, _, h => cases h; exact gtb_in cod_218 rfl
  | 219, _, h => cases h; exact gtb_in cod_219 rfl
  | 220, _, h => cases h; exact gtb_in cod_220 rfl
  | 221, _, h => cases h; exact gtb_in cod_221 rfl
  | 222, _, h => cases h; exact gtb_in cod_222 rfl
  | _ + 223, hk, _ => omega
