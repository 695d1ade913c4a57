/-! THE LAW: one round of its loop, for each operation -/
section Law
variable {len d iz : Nat} {xs : Nat → Int32} {σ : Nat → Nat → Int32} {A B : Tn} {im : Bool}
theorem shz_1000 {σ : Nat → Nat → Int32} : ((shp, σ) : aSt).1[1000]? = none := rfl
/-- one round -/
def LW (len : Nat) (xs : Nat → Int32) (d iz pc : Nat) (σ : Nat → Nat → Int32) : Prop := ∃ σ2 A2 B2 im2, Rn (some (len, xs)) (d + 100 + 1) 223 pc [some (.ref 1000), some (.ref 0), some (.ref 93), some (.int (nI iz))] [] (shp, σ) = Rn (some (len, xs)) (d + 100 + 1) 223 1630 [some (.ref 1000), some (.ref 0), some (.ref 93), some (.int (nI iz))] [] (shp, σ2) ∧ INV σ2 A2 B2 im2
theorem lw_one (hI : INV σ A B im) (hi : iz + 6 ≤ len) (hl : len < 2 ^ 31) : LW len xs d iz 232 σ := by
  have h : OK2 σ (Rn (some (len, xs)) (d + 100) 51 0 [some (.ref 0), some (.int (xs (iz + 1))), some (.int (xs (iz + 2))), some (.int (xs (iz + 3))), some (.int (xs (iz + 4))), some (.int (xs (iz + 5))), none] []) (Rn (some (len, xs)) (d + 100) 125 0 [some (.ref 93), some (.int (xs (iz + 1))), some (.int (xs (iz + 2))), some (.int (xs (iz + 3))), some (.int (xs (iz + 4))), some (.int (xs (iz + 5)))] []) := op_one (d := d + 50) hI
  obtain ⟨vv, σ1, σ2, A2, B2, im2, h1, h2, h3⟩ := h
  refine ⟨σ2, A2, B2, im2, ?_, h3⟩
  have j1 : inb (nI (iz + 1)) len = true := inb_n (by omega) (by omega)
  have j2 : inb (nI (iz + 2)) len = true := inb_n (by omega) (by omega)
  have j3 : inb (nI (iz + 3)) len = true := inb_n (by omega) (by omega)
  have j4 : inb (nI (iz + 4)) len = true := inb_n (by omega) (by omega)
  have j5 : inb (nI (iz + 5)) len = true := inb_n (by omega) (by omega)
  simp (disch := first | omega | exact shz_1000 | assumption) only [e223_232, e223_233, e223_234, e223_235, e223_236, e223_237, e223_238, e223_239, e223_240, e223_241, e223_242, e223_243, e223_244, e223_245, e223_246, e223_247, e223_248, e223_249, e223_250, e223_251, e223_252, e223_253, e223_254, e223_255, e223_256, e223_257, e223_258, e223_261, e223_262, e223_263, e223_264, e223_265, e223_266, e223_267, e223_268, e223_269, e223_270, e223_271, e223_272, e223_273, e223_274, e223_275, e223_276, e223_277, e223_278, e223_279, e223_280, e223_281, e223_282, e223_283, e223_284, e223_285, e223_286, e223_287, e223_290, ↓reduceIte, nI_add, ix_n, vX, vM, clK_s, tl_s, h1, h2]
theorem lw_told (hI : INV σ A B im) (hi : iz + 6 ≤ len) (hl : len < 2 ^ 31) : LW len xs d iz 295 σ := by
  have h : OK2 σ (Rn (some (len, xs)) (d + 100) 52 0 [some (.ref 0), some (.int (xs (iz + 1))), some (.int (xs (iz + 2)))] []) (Rn (some (len, xs)) (d + 100) 134 0 [some (.ref 93), some (.int (xs (iz + 1))), some (.int (xs (iz + 2)))] []) := op_told (d := d + 50) hI
  obtain ⟨vv, σ1, σ2, A2, B2, im2, h1, h2, h3⟩ := h
  refine ⟨σ2, A2, B2, im2, ?_, h3⟩
  have j1 : inb (nI (iz + 1)) len = true := inb_n (by omega) (by omega)
  have j2 : inb (nI (iz + 2)) len = true := inb_n (by omega) (by omega)
  simp (disch := first | omega | exact shz_1000 | assumption) only [e223_295, e223_296, e223_297, e223_298, e223_299, e223_300, e223_301, e223_302, e223_303, e223_304, e223_305, e223_306, e223_309, e223_310, e223_311, e223_312, e223_313, e223_314, e223_315, e223_316, e223_317, e223_318, e223_319, e223_320, e223_323, ↓reduceIte, nI_add, ix_n, vX, vM, clK_s, tl_s, h1, h2]
theorem lw_as (hI : INV σ A B im) (hi : iz + 6 ≤ len) (hl : len < 2 ^ 31) : LW len xs d iz 328 σ := by
  have h : OK2 σ (Rn (some (len, xs)) (d + 100) 53 0 [some (.ref 0), some (.int (xs (iz + 1))), some (.int (xs (iz + 2)))] []) (Rn (some (len, xs)) (d + 100) 135 0 [some (.ref 93), some (.int (xs (iz + 1))), some (.int (xs (iz + 2)))] []) := op_as (d := d + 50) hI
  obtain ⟨vv, σ1, σ2, A2, B2, im2, h1, h2, h3⟩ := h
  refine ⟨σ2, A2, B2, im2, ?_, h3⟩
  have j1 : inb (nI (iz + 1)) len = true := inb_n (by omega) (by omega)
  have j2 : inb (nI (iz + 2)) len = true := inb_n (by omega) (by omega)
  simp (disch := first | omega | exact shz_1000 | assumption) only [e223_328, e223_329, e223_330, e223_331, e223_332, e223_333, e223_334, e223_335, e223_336, e223_337, e223_338, e223_339, e223_342, e223_343, e223_344, e223_345, e223_346, e223_347, e223_348, e223_349, e223_350, e223_351, e223_352, e223_353, e223_356, ↓reduceIte, nI_add, ix_n, vX, vM, clK_s, tl_s, h1, h2]
theorem lw_turns (hI : INV σ A B im) (hi : iz + 6 ≤ len) (hl : len < 2 ^ 31) : LW len xs d iz 361 σ := by
  have h : OK2 σ (Rn (some (len, xs)) (d + 100) 54 0 [some (.ref 0), some (.int (xs (iz + 1))), some (.int (xs (iz + 2))), none] []) (Rn (some (len, xs)) (d + 100) 136 0 [some (.ref 93), some (.int (xs (iz + 1))), some (.int (xs (iz + 2)))] []) := op_turns (d := d + 50) hI
  obtain ⟨vv, σ1, σ2, A2, B2, im2, h1, h2, h3⟩ := h
  refine ⟨σ2, A2, B2, im2, ?_, h3⟩
  have j1 : inb (nI (iz + 1)) len = true := inb_n (by omega) (by omega)
  have j2 : inb (nI (iz + 2)) len = true := inb_n (by omega) (by omega)
  simp (disch := first | omega | exact shz_1000 | assumption) only [e223_361, e223_362, e223_363, e223_364, e223_365, e223_366, e223_367, e223_368, e223_369, e223_370, e223_371, e223_372, e223_375, e223_376, e223_377, e223_378, e223_379, e223_380, e223_381, e223_382, e223_383, e223_384, e223_385, e223_386, e223_389, ↓reduceIte, nI_add, ix_n, vX, vM, clK_s, tl_s, h1, h2]
theorem lw_set (hI : INV σ A B im) (hi : iz + 6 ≤ len) (hl : len < 2 ^ 31) : LW len xs d iz 394 σ := by
  have h : OK2 σ (Rn (some (len, xs)) (d + 100) 55 0 [some (.ref 0), some (.int (xs (iz + 1))), some (.int (xs (iz + 2))), some (.int (xs (iz + 3))), none, none] []) (Rn (some (len, xs)) (d + 100) 137 0 [some (.ref 93), some (.int (xs (iz + 1))), some (.int (xs (iz + 2))), some (.int (xs (iz + 3))), none] []) := op_set (d := d + 50) hI
  obtain ⟨vv, σ1, σ2, A2, B2, im2, h1, h2, h3⟩ := h
  refine ⟨σ2, A2, B2, im2, ?_, h3⟩
  have j1 : inb (nI (iz + 1)) len = true := inb_n (by omega) (by omega)
  have j2 : inb (nI (iz + 2)) len = true := inb_n (by omega) (by omega)
  have j3 : inb (nI (iz + 3)) len = true := inb_n (by omega) (by omega)
  simp (disch := first | omega | exact shz_1000 | assumption) only [e223_394, e223_395, e223_396, e223_397, e223_398, e223_399, e223_400, e223_401, e223_402, e223_403, e223_404, e223_405, e223_406, e223_407, e223_408, e223_409, e223_410, e223_413, e223_414, e223_415, e223_416, e223_417, e223_418, e223_419, e223_420, e223_421, e223_422, e223_423, e223_424, e223_425, e223_426, e223_427, e223_428, e223_429, e223_432, ↓reduceIte, nI_add, ix_n, vX, vM, clK_s, tl_s, h1, h2]
theorem lw_moves (hI : INV σ A B im) (hi : iz + 6 ≤ len) (hl : len < 2 ^ 31) : LW len xs d iz 437 σ := by
  have h : OK2 σ (Rn (some (len, xs)) (d + 100) 56 0 [some (.ref 0), some (.int (xs (iz + 1))), some (.int (xs (iz + 2))), none] []) (Rn (some (len, xs)) (d + 100) 138 0 [some (.ref 93), some (.int (xs (iz + 1))), some (.int (xs (iz + 2)))] []) := op_moves (d := d + 50) hI
  obtain ⟨vv, σ1, σ2, A2, B2, im2, h1, h2, h3⟩ := h
  refine ⟨σ2, A2, B2, im2, ?_, h3⟩
  have j1 : inb (nI (iz + 1)) len = true := inb_n (by omega) (by omega)
  have j2 : inb (nI (iz + 2)) len = true := inb_n (by omega) (by omega)
  simp (disch := first | omega | exact shz_1000 | assumption) only [e223_437, e223_438, e223_439, e223_440, e223_441, e223_442, e223_443, e223_444, e223_445, e223_446, e223_447, e223_448, e223_451, e223_452, e223_453, e223_454, e223_455, e223_456, e223_457, e223_458, e223_459, e223_460, e223_461, e223_462, e223_465, ↓reduceIte, nI_add, ix_n, vX, vM, clK_s, tl_s, h1, h2]
theorem lw_screen (hI : INV σ A B im) (hi : iz + 6 ≤ len) (hl : len < 2 ^ 31) : LW len xs d iz 470 σ := by
  have h : OK2 σ (Rn (some (len, xs)) (d + 100) 57 0 [some (.ref 0), some (.int (xs (iz + 1))), some (.int (xs (iz + 2))), none] []) (Rn (some (len, xs)) (d + 100) 139 0 [some (.ref 93), some (.int (xs (iz + 1))), some (.int (xs (iz + 2))), none] []) := op_screen (d := d + 50) hI
  obtain ⟨vv, σ1, σ2, A2, B2, im2, h1, h2, h3⟩ := h
  refine ⟨σ2, A2, B2, im2, ?_, h3⟩
  have j1 : inb (nI (iz + 1)) len = true := inb_n (by omega) (by omega)
  have j2 : inb (nI (iz + 2)) len = true := inb_n (by omega) (by omega)
  simp (disch := first | omega | exact shz_1000 | assumption) only [e223_470, e223_471, e223_472, e223_473, e223_474, e223_475, e223_476, e223_477, e223_478, e223_479, e223_480, e223_481, e223_484, e223_485, e223_486, e223_487, e223_488, e223_489, e223_490, e223_491, e223_492, e223_493, e223_494, e223_495, e223_498, ↓reduceIte, nI_add, ix_n, vX, vM, clK_s, tl_s, h1, h2]
theorem lw_at (hI : INV σ A B im) (hi : iz + 6 ≤ len) (hl : len < 2 ^ 31) : LW len xs d iz 503 σ := by
  have h : OK2 σ (Rn (some (len, xs)) (d + 100) 58 0 [some (.ref 0), some (.int (xs (iz + 1)))] []) (Rn (some (len, xs)) (d + 100) 140 0 [some (.ref 93), some (.int (xs (iz + 1)))] []) := op_at (d := d + 50) hI
  obtain ⟨vv, σ1, σ2, A2, B2, im2, h1, h2, h3⟩ := h
  refine ⟨σ2, A2, B2, im2, ?_, h3⟩
  have j1 : inb (nI (iz + 1)) len = true := inb_n (by omega) (by omega)
  simp (disch := first | omega | exact shz_1000 | assumption) only [e223_503, e223_504, e223_505, e223_506, e223_507, e223_508, e223_509, e223_512, e223_513, e223_514, e223_515, e223_516, e223_517, e223_518, e223_521, ↓reduceIte, nI_add, ix_n, vX, vM, clK_s, tl_s, h1, h2]
theorem lw_rule (hI : INV σ A B im) (hi : iz + 6 ≤ len) (hl : len < 2 ^ 31) : LW len xs d iz 526 σ := by
  have h : OK2 σ (Rn (some (len, xs)) (d + 100) 59 0 [some (.ref 0), some (.int (xs (iz + 1))), some (.int (xs (iz + 2))), none] []) (Rn (some (len, xs)) (d + 100) 141 0 [some (.ref 93), some (.int (xs (iz + 1))), some (.int (xs (iz + 2)))] []) := op_rule (d := d + 50) hI
  obtain ⟨vv, σ1, σ2, A2, B2, im2, h1, h2, h3⟩ := h
  refine ⟨σ2, A2, B2, im2, ?_, h3⟩
  have j1 : inb (nI (iz + 1)) len = true := inb_n (by omega) (by omega)
  have j2 : inb (nI (iz + 2)) len = true := inb_n (by omega) (by omega)
  simp (disch := first | omega | exact shz_1000 | assumption) only [e223_526, e223_527, e223_528, e223_529, e223_530, e223_531, e223_532, e223_533, e223_534, e223_535, e223_536, e223_537, e223_540, e223_541, e223_542, e223_543, e223_544, e223_545, e223_546, e223_547, e223_548, e223_549, e223_550, e223_551, e223_554, ↓reduceIte, nI_add, ix_n, vX, vM, clK_s, tl_s, h1, h2]
theorem lw_deal (hI : INV σ A B im) (hi : iz + 6 ≤ len) (hl : len < 2 ^ 31) : LW len xs d iz 559 σ := by
  have h : OK2 σ (Rn (some (len, xs)) (d + 100) 60 0 [some (.ref 0), some (.int (xs (iz + 1))), none, none] []) (Rn (some (len, xs)) (d + 100) 142 0 [some (.ref 93), some (.int (xs (iz + 1))), none, none, none, none, none, none, none, none] []) := op_deal (d := d + 50) hI
  obtain ⟨vv, σ1, σ2, A2, B2, im2, h1, h2, h3⟩ := h
  refine ⟨σ2, A2, B2, im2, ?_, h3⟩
  have j1 : inb (nI (iz + 1)) len = true := inb_n (by omega) (by omega)
  simp (disch := first | omega | exact shz_1000 | assumption) only [e223_559, e223_560, e223_561, e223_562, e223_563, e223_564, e223_565, e223_568, e223_569, e223_570, e223_571, e223_572, e223_573, e223_574, e223_577, ↓reduceIte, nI_add, ix_n, vX, vM, clK_s, tl_s, h1, h2]
theorem lw_seed (hI : INV σ A B im) (hi : iz + 6 ≤ len) (hl : len < 2 ^ 31) : LW len xs d iz 582 σ := by
  have h : OK2 σ (Rn (some (len, xs)) (d + 100) 61 0 [some (.ref 0), some (.int (xs (iz + 1))), none] []) (Rn (some (len, xs)) (d + 100) 143 0 [some (.ref 93), some (.int (xs (iz + 1)))] []) := op_seed (d := d + 50) hI
  obtain ⟨vv, σ1, σ2, A2, B2, im2, h1, h2, h3⟩ := h
  refine ⟨σ2, A2, B2, im2, ?_, h3⟩
  have j1 : inb (nI (iz + 1)) len = true := inb_n (by omega) (by omega)
  simp (disch := first | omega | exact shz_1000 | assumption) only [e223_582, e223_583, e223_584, e223_585, e223_586, e223_587, e223_588, e223_591, e223_592, e223_593, e223_594, e223_595, e223_596, e223_597, e223_600, ↓reduceIte, nI_add, ix_n, vX, vM, clK_s, tl_s, h1, h2]
theorem lw_looks (hI : INV σ A B im) (hi : iz + 6 ≤ len) (hl : len < 2 ^ 31) : LW len xs d iz 605 σ := by
  have h : OK2 σ (Rn (some (len, xs)) (d + 100) 62 0 [some (.ref 0), some (.int (xs (iz + 1))), none] []) (Rn (some (len, xs)) (d + 100) 144 0 [some (.ref 93), some (.int (xs (iz + 1)))] []) := op_looks (d := d + 50) hI
  obtain ⟨vv, σ1, σ2, A2, B2, im2, h1, h2, h3⟩ := h
  refine ⟨σ2, A2, B2, im2, ?_, h3⟩
  have j1 : inb (nI (iz + 1)) len = true := inb_n (by omega) (by omega)
  simp (disch := first | omega | exact shz_1000 | assumption) only [e223_605, e223_606, e223_607, e223_608, e223_609, e223_610, e223_611, e223_614, e223_615, e223_616, e223_617, e223_618, e223_619, e223_620, e223_623, ↓reduceIte, nI_add, ix_n, vX, vM, clK_s, tl_s, h1, h2]
theorem lw_eyes (hI : INV σ A B im) (hi : iz + 6 ≤ len) (hl : len < 2 ^ 31) : LW len xs d iz 628 σ := by
  have h : OK2 σ (Rn (some (len, xs)) (d + 100) 63 0 [some (.ref 0), some (.int (xs (iz + 1)))] []) (Rn (some (len, xs)) (d + 100) 145 0 [some (.ref 93), some (.int (xs (iz + 1)))] []) := op_eyes (d := d + 50) hI
  obtain ⟨vv, σ1, σ2, A2, B2, im2, h1, h2, h3⟩ := h
  refine ⟨σ2, A2, B2, im2, ?_, h3⟩
  have j1 : inb (nI (iz + 1)) len = true := inb_n (by omega) (by omega)
  simp (disch := first | omega | exact shz_1000 | assumption) only [e223_628, e223_629, e223_630, e223_631, e223_632, e223_633, e223_634, e223_637, e223_638, e223_639, e223_640, e223_641, e223_642, e223_643, e223_646, ↓reduceIte, nI_add, ix_n, vX, vM, clK_s, tl_s, h1, h2]
theorem lw_sees (hI : INV σ A B im) (hi : iz + 6 ≤ len) (hl : len < 2 ^ 31) : LW len xs d iz 651 σ := by
  have h : OK2 σ (Rn (some (len, xs)) (d + 100) 64 0 [some (.ref 0), some (.int (xs (iz + 1)))] []) (Rn (some (len, xs)) (d + 100) 146 0 [some (.ref 93), some (.int (xs (iz + 1))), none, none] []) := op_sees (d := d + 50) hI
  obtain ⟨vv, σ1, σ2, A2, B2, im2, h1, h2, h3⟩ := h
  refine ⟨σ2, A2, B2, im2, ?_, h3⟩
  have j1 : inb (nI (iz + 1)) len = true := inb_n (by omega) (by omega)
  simp (disch := first | omega | exact shz_1000 | assumption) only [e223_651, e223_652, e223_653, e223_654, e223_655, e223_656, e223_657, e223_660, e223_661, e223_662, e223_663, e223_664, e223_665, e223_666, e223_669, ↓reduceIte, nI_add, ix_n, vX, vM, clK_s, tl_s, h1, h2]
theorem lw_days (hI : INV σ A B im) (hi : iz + 6 ≤ len) (hl : len < 2 ^ 31) : LW len xs d iz 674 σ := by
  have h : OK2 σ (Rn (some (len, xs)) (d + 100) 65 0 [some (.ref 0), some (.int (xs (iz + 1))), none] []) (Rn (some (len, xs)) (d + 100) 150 0 [some (.ref 93), some (.int (xs (iz + 1))), none, none] []) := op_days (d := d + 50) hI
  obtain ⟨vv, σ1, σ2, A2, B2, im2, h1, h2, h3⟩ := h
  refine ⟨σ2, A2, B2, im2, ?_, h3⟩
  have j1 : inb (nI (iz + 1)) len = true := inb_n (by omega) (by omega)
  simp (disch := first | omega | exact shz_1000 | assumption) only [e223_674, e223_675, e223_676, e223_677, e223_678, e223_679, e223_680, e223_683, e223_684, e223_685, e223_686, e223_687, e223_688, e223_689, e223_692, ↓reduceIte, nI_add, ix_n, vX, vM, clK_s, tl_s, h1, h2]
theorem lw_town (hI : INV σ A B im) (hi : iz + 6 ≤ len) (hl : len < 2 ^ 31) : LW len xs d iz 697 σ := by
  have h : OK2 σ (Rn (some (len, xs)) (d + 100) 66 0 [some (.ref 0), some (.int (xs (iz + 1)))] []) (Rn (some (len, xs)) (d + 100) 152 0 [some (.ref 93), some (.int (xs (iz + 1)))] []) := op_town (d := d + 50) hI
  obtain ⟨vv, σ1, σ2, A2, B2, im2, h1, h2, h3⟩ := h
  refine ⟨σ2, A2, B2, im2, ?_, h3⟩
  have j1 : inb (nI (iz + 1)) len = true := inb_n (by omega) (by omega)
  simp (disch := first | omega | exact shz_1000 | assumption) only [e223_697, e223_698, e223_699, e223_700, e223_701, e223_702, e223_703, e223_706, e223_707, e223_708, e223_709, e223_710, e223_711, e223_712, e223_715, ↓reduceIte, nI_add, ix_n, vX, vM, clK_s, tl_s, h1, h2]
theorem lw_curtain (hI : INV σ A B im) (hi : iz + 6 ≤ len) (hl : len < 2 ^ 31) : LW len xs d iz 720 σ := by
  have h : OK2 σ (Rn (some (len, xs)) (d + 100) 67 0 [some (.ref 0), some (.int (xs (iz + 1))), some (.int (xs (iz + 2))), none, none, none, none] []) (Rn (some (len, xs)) (d + 100) 155 0 [some (.ref 93), some (.int (xs (iz + 1))), some (.int (xs (iz + 2))), none, none, none, none, none] []) := op_curtain (d := d + 50) hI
  obtain ⟨vv, σ1, σ2, A2, B2, im2, h1, h2, h3⟩ := h
  refine ⟨σ2, A2, B2, im2, ?_, h3⟩
  have j1 : inb (nI (iz + 1)) len = true := inb_n (by omega) (by omega)
  have j2 : inb (nI (iz + 2)) len = true := inb_n (by omega) (by omega)
  simp (disch := first | omega | exact shz_1000 | assumption) only [e223_720, e223_721, e223_722, e223_723, e223_724, e223_725, e223_726, e223_727, e223_728, e223_729, e223_730, e223_731, e223_734, e223_735, e223_736, e223_737, e223_738, e223_739, e223_740, e223_741, e223_742, e223_743, e223_744, e223_745, e223_748, ↓reduceIte, nI_add, ix_n, vX, vM, clK_s, tl_s, h1, h2]
theorem lw_seat (hI : INV σ A B im) (hi : iz + 6 ≤ len) (hl : len < 2 ^ 31) : LW len xs d iz 753 σ := by
  have h : OK2 σ (Rn (some (len, xs)) (d + 100) 68 0 [some (.ref 0), some (.int (xs (iz + 1))), some (.int (xs (iz + 2))), none, none, none, none] []) (Rn (some (len, xs)) (d + 100) 156 0 [some (.ref 93), some (.int (xs (iz + 1))), some (.int (xs (iz + 2))), none, none, none, none, none] []) := op_seat (d := d + 50) hI
  obtain ⟨vv, σ1, σ2, A2, B2, im2, h1, h2, h3⟩ := h
  refine ⟨σ2, A2, B2, im2, ?_, h3⟩
  have j1 : inb (nI (iz + 1)) len = true := inb_n (by omega) (by omega)
  have j2 : inb (nI (iz + 2)) len = true := inb_n (by omega) (by omega)
  simp (disch := first | omega | exact shz_1000 | assumption) only [e223_753, e223_754, e223_755, e223_756, e223_757, e223_758, e223_759, e223_760, e223_761, e223_762, e223_763, e223_764, e223_767, e223_768, e223_769, e223_770, e223_771, e223_772, e223_773, e223_774, e223_775, e223_776, e223_777, e223_778, e223_781, ↓reduceIte, nI_add, ix_n, vX, vM, clK_s, tl_s, h1, h2]
theorem lw_behind (hI : INV σ A B im) (hi : iz + 6 ≤ len) (hl : len < 2 ^ 31) : LW len xs d iz 786 σ := by
  have h : OK2 σ (Rn (some (len, xs)) (d + 100) 69 0 [some (.ref 0), some (.int (xs (iz + 1))), some (.int (xs (iz + 2)))] []) (Rn (some (len, xs)) (d + 100) 157 0 [some (.ref 93), some (.int (xs (iz + 1))), some (.int (xs (iz + 2))), none] []) := op_behind (d := d + 50) hI
  obtain ⟨vv, σ1, σ2, A2, B2, im2, h1, h2, h3⟩ := h
  refine ⟨σ2, A2, B2, im2, ?_, h3⟩
  have j1 : inb (nI (iz + 1)) len = true := inb_n (by omega) (by omega)
  have j2 : inb (nI (iz + 2)) len = true := inb_n (by omega) (by omega)
  simp (disch := first | omega | exact shz_1000 | assumption) only [e223_786, e223_787, e223_788, e223_789, e223_790, e223_791, e223_792, e223_793, e223_794, e223_795, e223_796, e223_797, e223_800, e223_801, e223_802, e223_803, e223_804, e223_805, e223_806, e223_807, e223_808, e223_809, e223_810, e223_811, e223_814, ↓reduceIte, nI_add, ix_n, vX, vM, clK_s, tl_s, h1, h2]
theorem lw_vanishes (hI : INV σ A B im) (hi : iz + 6 ≤ len) (hl : len < 2 ^ 31) : LW len xs d iz 819 σ := by
  have h : OK2 σ (Rn (some (len, xs)) (d + 100) 70 0 [some (.ref 0), some (.int (xs (iz + 1)))] []) (Rn (some (len, xs)) (d + 100) 158 0 [some (.ref 93), some (.int (xs (iz + 1))), none] []) := op_vanishes (d := d + 50) hI
  obtain ⟨vv, σ1, σ2, A2, B2, im2, h1, h2, h3⟩ := h
  refine ⟨σ2, A2, B2, im2, ?_, h3⟩
  have j1 : inb (nI (iz + 1)) len = true := inb_n (by omega) (by omega)
  simp (disch := first | omega | exact shz_1000 | assumption) only [e223_819, e223_820, e223_821, e223_822, e223_823, e223_824, e223_825, e223_828, e223_829, e223_830, e223_831, e223_832, e223_833, e223_834, e223_837, ↓reduceIte, nI_add, ix_n, vX, vM, clK_s, tl_s, h1, h2]
theorem lw_bumps (hI : INV σ A B im) (hi : iz + 6 ≤ len) (hl : len < 2 ^ 31) : LW len xs d iz 842 σ := by
  have h : OK2 σ (Rn (some (len, xs)) (d + 100) 71 0 [some (.ref 0), some (.int (xs (iz + 1)))] []) (Rn (some (len, xs)) (d + 100) 159 0 [some (.ref 93), some (.int (xs (iz + 1))), none] []) := op_bumps (d := d + 50) hI
  obtain ⟨vv, σ1, σ2, A2, B2, im2, h1, h2, h3⟩ := h
  refine ⟨σ2, A2, B2, im2, ?_, h3⟩
  have j1 : inb (nI (iz + 1)) len = true := inb_n (by omega) (by omega)
  simp (disch := first | omega | exact shz_1000 | assumption) only [e223_842, e223_843, e223_844, e223_845, e223_846, e223_847, e223_848, e223_851, e223_852, e223_853, e223_854, e223_855, e223_856, e223_857, e223_860, ↓reduceIte, nI_add, ix_n, vX, vM, clK_s, tl_s, h1, h2]
theorem lw_loud (hI : INV σ A B im) (hi : iz + 6 ≤ len) (hl : len < 2 ^ 31) : LW len xs d iz 865 σ := by
  have h : OK2 σ (Rn (some (len, xs)) (d + 100) 72 0 [some (.ref 0), some (.int (xs (iz + 1))), some (.int (xs (iz + 2))), some (.int (xs (iz + 3)))] []) (Rn (some (len, xs)) (d + 100) 162 0 [some (.ref 93), some (.int (xs (iz + 1))), some (.int (xs (iz + 2))), some (.int (xs (iz + 3)))] []) := op_loud (d := d + 50) hI
  obtain ⟨vv, σ1, σ2, A2, B2, im2, h1, h2, h3⟩ := h
  refine ⟨σ2, A2, B2, im2, ?_, h3⟩
  have j1 : inb (nI (iz + 1)) len = true := inb_n (by omega) (by omega)
  have j2 : inb (nI (iz + 2)) len = true := inb_n (by omega) (by omega)
  have j3 : inb (nI (iz + 3)) len = true := inb_n (by omega) (by omega)
  simp (disch := first | omega | exact shz_1000 | assumption) only [e223_865, e223_866, e223_867, e223_868, e223_869, e223_870, e223_871, e223_872, e223_873, e223_874, e223_875, e223_876, e223_877, e223_878, e223_879, e223_880, e223_881, e223_884, e223_885, e223_886, e223_887, e223_888, e223_889, e223_890, e223_891, e223_892, e223_893, e223_894, e223_895, e223_896, e223_897, e223_898, e223_899, e223_900, e223_903, ↓reduceIte, nI_add, ix_n, vX, vM, clK_s, tl_s, h1, h2]
theorem lw_loved (hI : INV σ A B im) (hi : iz + 6 ≤ len) (hl : len < 2 ^ 31) : LW len xs d iz 908 σ := by
  have h : OK2 σ (Rn (some (len, xs)) (d + 100) 73 0 [some (.ref 0), some (.int (xs (iz + 1))), some (.int (xs (iz + 2))), some (.int (xs (iz + 3)))] []) (Rn (some (len, xs)) (d + 100) 164 0 [some (.ref 93), some (.int (xs (iz + 1))), some (.int (xs (iz + 2))), some (.int (xs (iz + 3)))] []) := op_loved (d := d + 50) hI
  obtain ⟨vv, σ1, σ2, A2, B2, im2, h1, h2, h3⟩ := h
  refine ⟨σ2, A2, B2, im2, ?_, h3⟩
  have j1 : inb (nI (iz + 1)) len = true := inb_n (by omega) (by omega)
  have j2 : inb (nI (iz + 2)) len = true := inb_n (by omega) (by omega)
  have j3 : inb (nI (iz + 3)) len = true := inb_n (by omega) (by omega)
  simp (disch := first | omega | exact shz_1000 | assumption) only [e223_908, e223_909, e223_910, e223_911, e223_912, e223_913, e223_914, e223_915, e223_916, e223_917, e223_918, e223_919, e223_920, e223_921, e223_922, e223_923, e223_924, e223_927, e223_928, e223_929, e223_930, e223_931, e223_932, e223_933, e223_934, e223_935, e223_936, e223_937, e223_938, e223_939, e223_940, e223_941, e223_942, e223_943, e223_946, ↓reduceIte, nI_add, ix_n, vX, vM, clK_s, tl_s, h1, h2]
theorem lw_becomes (hI : INV σ A B im) (hi : iz + 6 ≤ len) (hl : len < 2 ^ 31) : LW len xs d iz 951 σ := by
  have h : OK2 σ (Rn (some (len, xs)) (d + 100) 74 0 [some (.ref 0), some (.int (xs (iz + 1))), some (.int (xs (iz + 2))), some (.int (xs (iz + 3)))] []) (Rn (some (len, xs)) (d + 100) 165 0 [some (.ref 93), some (.int (xs (iz + 1))), some (.int (xs (iz + 2))), some (.int (xs (iz + 3)))] []) := op_becomes (d := d + 50) hI
  obtain ⟨vv, σ1, σ2, A2, B2, im2, h1, h2, h3⟩ := h
  refine ⟨σ2, A2, B2, im2, ?_, h3⟩
  have j1 : inb (nI (iz + 1)) len = true := inb_n (by omega) (by omega)
  have j2 : inb (nI (iz + 2)) len = true := inb_n (by omega) (by omega)
  have j3 : inb (nI (iz + 3)) len = true := inb_n (by omega) (by omega)
  simp (disch := first | omega | exact shz_1000 | assumption) only [e223_951, e223_952, e223_953, e223_954, e223_955, e223_956, e223_957, e223_958, e223_959, e223_960, e223_961, e223_962, e223_963, e223_964, e223_965, e223_966, e223_967, e223_970, e223_971, e223_972, e223_973, e223_974, e223_975, e223_976, e223_977, e223_978, e223_979, e223_980, e223_981, e223_982, e223_983, e223_984, e223_985, e223_986, e223_989, ↓reduceIte, nI_add, ix_n, vX, vM, clK_s, tl_s, h1, h2]
theorem lw_like (hI : INV σ A B im) (hi : iz + 6 ≤ len) (hl : len < 2 ^ 31) : LW len xs d iz 994 σ := by
  have h : OK2 σ (Rn (some (len, xs)) (d + 100) 75 0 [some (.ref 0), some (.int (xs (iz + 1))), some (.int (xs (iz + 2))), none, none] []) (Rn (some (len, xs)) (d + 100) 197 0 [some (.ref 93), some (.int (xs (iz + 1))), some (.int (xs (iz + 2))), none, none, none, none] []) := op_like (d := d + 50) hI
  obtain ⟨vv, σ1, σ2, A2, B2, im2, h1, h2, h3⟩ := h
  refine ⟨σ2, A2, B2, im2, ?_, h3⟩
  have j1 : inb (nI (iz + 1)) len = true := inb_n (by omega) (by omega)
  have j2 : inb (nI (iz + 2)) len = true := inb_n (by omega) (by omega)
  simp (disch := first | omega | exact shz_1000 | assumption) only [e223_994, e223_995, e223_996, e223_997, e223_998, e223_999, e223_1000, e223_1001, e223_1002, e223_1003, e223_1004, e223_1005, e223_1008, e223_1009, e223_1010, e223_1011, e223_1012, e223_1013, e223_1014, e223_1015, e223_1016, e223_1017, e223_1018, e223_1019, e223_1022, ↓reduceIte, nI_add, ix_n, vX, vM, clK_s, tl_s, h1, h2]
theorem lw_fee (hI : INV σ A B im) (hi : iz + 6 ≤ len) (hl : len < 2 ^ 31) : LW len xs d iz 1027 σ := by
  have h : OK2 σ (Rn (some (len, xs)) (d + 100) 76 0 [some (.ref 0), none] []) (Rn (some (len, xs)) (d + 100) 166 0 [some (.ref 93), none] []) := op_fee (d := d + 50) hI
  obtain ⟨vv, σ1, σ2, A2, B2, im2, h1, h2, h3⟩ := h
  refine ⟨σ2, A2, B2, im2, ?_, h3⟩
  simp (disch := first | omega | exact shz_1000 | assumption) only [e223_1027, e223_1028, e223_1031, e223_1032, e223_1035, ↓reduceIte, nI_add, ix_n, vX, vM, clK_s, tl_s, h1, h2]
theorem lw_fine (hI : INV σ A B im) (hi : iz + 6 ≤ len) (hl : len < 2 ^ 31) : LW len xs d iz 1040 σ := by
  have h : OK2 σ (Rn (some (len, xs)) (d + 100) 77 0 [some (.ref 0), some (.int (xs (iz + 1))), none] []) (Rn (some (len, xs)) (d + 100) 167 0 [some (.ref 93), some (.int (xs (iz + 1))), none] []) := op_fine (d := d + 50) hI
  obtain ⟨vv, σ1, σ2, A2, B2, im2, h1, h2, h3⟩ := h
  refine ⟨σ2, A2, B2, im2, ?_, h3⟩
  have j1 : inb (nI (iz + 1)) len = true := inb_n (by omega) (by omega)
  simp (disch := first | omega | exact shz_1000 | assumption) only [e223_1040, e223_1041, e223_1042, e223_1043, e223_1044, e223_1045, e223_1046, e223_1049, e223_1050, e223_1051, e223_1052, e223_1053, e223_1054, e223_1055, e223_1058, ↓reduceIte, nI_add, ix_n, vX, vM, clK_s, tl_s, h1, h2]
theorem lw_feed (hI : INV σ A B im) (hi : iz + 6 ≤ len) (hl : len < 2 ^ 31) : LW len xs d iz 1063 σ := by
  have h : OK2 σ (Rn (some (len, xs)) (d + 100) 78 0 [some (.ref 0), some (.int (xs (iz + 1))), some (.int (xs (iz + 2))), some (.int (xs (iz + 3)))] []) (Rn (some (len, xs)) (d + 100) 168 0 [some (.ref 93), some (.int (xs (iz + 1))), some (.int (xs (iz + 2))), some (.int (xs (iz + 3))), none, none] []) := op_feed (d := d + 50) hI
  obtain ⟨vv, σ1, σ2, A2, B2, im2, h1, h2, h3⟩ := h
  refine ⟨σ2, A2, B2, im2, ?_, h3⟩
  have j1 : inb (nI (iz + 1)) len = true := inb_n (by omega) (by omega)
  have j2 : inb (nI (iz + 2)) len = true := inb_n (by omega) (by omega)
  have j3 : inb (nI (iz + 3)) len = true := inb_n (by omega) (by omega)
  simp (disch := first | omega | exact shz_1000 | assumption) only [e223_1063, e223_1064, e223_1065, e223_1066, e223_1067, e223_1068, e223_1069, e223_1070, e223_1071, e223_1072, e223_1073, e223_1074, e223_1075, e223_1076, e223_1077, e223_1078, e223_1079, e223_1082, e223_1083, e223_1084, e223_1085, e223_1086, e223_1087, e223_1088, e223_1089, e223_1090, e223_1091, e223_1092, e223_1093, e223_1094, e223_1095, e223_1096, e223_1097, e223_1098, e223_1101, ↓reduceIte, nI_add, ix_n, vX, vM, clK_s, tl_s, h1, h2]
theorem lw_trim (hI : INV σ A B im) (hi : iz + 6 ≤ len) (hl : len < 2 ^ 31) : LW len xs d iz 1106 σ := by
  have h : OK2 σ (Rn (some (len, xs)) (d + 100) 79 0 [some (.ref 0), some (.int (xs (iz + 1)))] []) (Rn (some (len, xs)) (d + 100) 169 0 [some (.ref 93), some (.int (xs (iz + 1)))] []) := op_trim (d := d + 50) hI
  obtain ⟨vv, σ1, σ2, A2, B2, im2, h1, h2, h3⟩ := h
  refine ⟨σ2, A2, B2, im2, ?_, h3⟩
  have j1 : inb (nI (iz + 1)) len = true := inb_n (by omega) (by omega)
  simp (disch := first | omega | exact shz_1000 | assumption) only [e223_1106, e223_1107, e223_1108, e223_1109, e223_1110, e223_1111, e223_1112, e223_1115, e223_1116, e223_1117, e223_1118, e223_1119, e223_1120, e223_1121, e223_1124, ↓reduceIte, nI_add, ix_n, vX, vM, clK_s, tl_s, h1, h2]
theorem lw_text (hI : INV σ A B im) (hi : iz + 6 ≤ len) (hl : len < 2 ^ 31) : LW len xs d iz 1129 σ := by
  have h : OK2 σ (Rn (some (len, xs)) (d + 100) 80 0 [some (.ref 0), none, none, none] []) (Rn (some (len, xs)) (d + 100) 185 0 [some (.ref 93), none, none] []) := op_text (d := d) hI
  obtain ⟨vv, σ1, σ2, A2, B2, im2, h1, h2, h3⟩ := h
  refine ⟨σ2, A2, B2, im2, ?_, h3⟩
  simp (disch := first | omega | exact shz_1000 | assumption) only [e223_1129, e223_1130, e223_1133, e223_1134, e223_1137, ↓reduceIte, nI_add, ix_n, vX, vM, clK_s, tl_s, h1, h2]
theorem lw_textTold (hI : INV σ A B im) (hi : iz + 6 ≤ len) (hl : len < 2 ^ 31) : LW len xs d iz 1142 σ := by
  have h : OK2 σ (Rn (some (len, xs)) (d + 100) 81 0 [some (.ref 0), some (.int (xs (iz + 1))), some (.int (xs (iz + 2)))] []) (Rn (some (len, xs)) (d + 100) 186 0 [some (.ref 93), some (.int (xs (iz + 1))), some (.int (xs (iz + 2)))] []) := op_textTold (d := d + 50) hI
  obtain ⟨vv, σ1, σ2, A2, B2, im2, h1, h2, h3⟩ := h
  refine ⟨σ2, A2, B2, im2, ?_, h3⟩
  have j1 : inb (nI (iz + 1)) len = true := inb_n (by omega) (by omega)
  have j2 : inb (nI (iz + 2)) len = true := inb_n (by omega) (by omega)
  simp (disch := first | omega | exact shz_1000 | assumption) only [e223_1142, e223_1143, e223_1144, e223_1145, e223_1146, e223_1147, e223_1148, e223_1149, e223_1150, e223_1151, e223_1152, e223_1153, e223_1156, e223_1157, e223_1158, e223_1159, e223_1160, e223_1161, e223_1162, e223_1163, e223_1164, e223_1165, e223_1166, e223_1167, e223_1170, ↓reduceIte, nI_add, ix_n, vX, vM, clK_s, tl_s, h1, h2]
theorem lw_why (hI : INV σ A B im) (hi : iz + 6 ≤ len) (hl : len < 2 ^ 31) : LW len xs d iz 1175 σ := by
  have h : OK2 σ (Rn (some (len, xs)) (d + 100) 82 0 [some (.ref 0), some (.int (xs (iz + 1)))] []) (Rn (some (len, xs)) (d + 100) 188 0 [some (.ref 93), some (.int (xs (iz + 1)))] []) := op_why (d := d + 50) hI
  obtain ⟨vv, σ1, σ2, A2, B2, im2, h1, h2, h3⟩ := h
  refine ⟨σ2, A2, B2, im2, ?_, h3⟩
  have j1 : inb (nI (iz + 1)) len = true := inb_n (by omega) (by omega)
  simp (disch := first | omega | exact shz_1000 | assumption) only [e223_1175, e223_1176, e223_1177, e223_1178, e223_1179, e223_1180, e223_1181, e223_1184, e223_1185, e223_1186, e223_1187, e223_1188, e223_1189, e223_1190, e223_1193, ↓reduceIte, nI_add, ix_n, vX, vM, clK_s, tl_s, h1, h2]
theorem lw_sheet (hI : INV σ A B im) (hi : iz + 6 ≤ len) (hl : len < 2 ^ 31) : LW len xs d iz 1198 σ := by
  have h : OK2 σ (Rn (some (len, xs)) (d + 100) 83 0 [some (.ref 0), some (.int (xs (iz + 1))), some (.int (xs (iz + 2))), some (.int (xs (iz + 3))), none] []) (Rn (some (len, xs)) (d + 100) 192 0 [some (.ref 93), some (.int (xs (iz + 1))), some (.int (xs (iz + 2))), some (.int (xs (iz + 3))), none] []) := op_sheet (d := d + 50) hI
  obtain ⟨vv, σ1, σ2, A2, B2, im2, h1, h2, h3⟩ := h
  refine ⟨σ2, A2, B2, im2, ?_, h3⟩
  have j1 : inb (nI (iz + 1)) len = true := inb_n (by omega) (by omega)
  have j2 : inb (nI (iz + 2)) len = true := inb_n (by omega) (by omega)
  have j3 : inb (nI (iz + 3)) len = true := inb_n (by omega) (by omega)
  simp (disch := first | omega | exact shz_1000 | assumption) only [e223_1198, e223_1199, e223_1200, e223_1201, e223_1202, e223_1203, e223_1204, e223_1205, e223_1206, e223_1207, e223_1208, e223_1209, e223_1210, e223_1211, e223_1212, e223_1213, e223_1214, e223_1217, e223_1218, e223_1219, e223_1220, e223_1221, e223_1222, e223_1223, e223_1224, e223_1225, e223_1226, e223_1227, e223_1228, e223_1229, e223_1230, e223_1231, e223_1232, e223_1233, e223_1236, ↓reduceIte, nI_add, ix_n, vX, vM, clK_s, tl_s, h1, h2]
theorem lw_mark (hI : INV σ A B im) (hi : iz + 6 ≤ len) (hl : len < 2 ^ 31) : LW len xs d iz 1241 σ := by
  have h : OK2 σ (Rn (some (len, xs)) (d + 100) 84 0 [some (.ref 0), some (.int (xs (iz + 1))), some (.int (xs (iz + 2))), some (.int (xs (iz + 3))), none, none] []) (Rn (some (len, xs)) (d + 100) 193 0 [some (.ref 93), some (.int (xs (iz + 1))), some (.int (xs (iz + 2))), some (.int (xs (iz + 3)))] []) := op_mark (d := d + 50) hI
  obtain ⟨vv, σ1, σ2, A2, B2, im2, h1, h2, h3⟩ := h
  refine ⟨σ2, A2, B2, im2, ?_, h3⟩
  have j1 : inb (nI (iz + 1)) len = true := inb_n (by omega) (by omega)
  have j2 : inb (nI (iz + 2)) len = true := inb_n (by omega) (by omega)
  have j3 : inb (nI (iz + 3)) len = true := inb_n (by omega) (by omega)
  simp (disch := first | omega | exact shz_1000 | assumption) only [e223_1241, e223_1242, e223_1243, e223_1244, e223_1245, e223_1246, e223_1247, e223_1248, e223_1249, e223_1250, e223_1251, e223_1252, e223_1253, e223_1254, e223_1255, e223_1256, e223_1257, e223_1260, e223_1261, e223_1262, e223_1263, e223_1264, e223_1265, e223_1266, e223_1267, e223_1268, e223_1269, e223_1270, e223_1271, e223_1272, e223_1273, e223_1274, e223_1275, e223_1276, e223_1279, ↓reduceIte, nI_add, ix_n, vX, vM, clK_s, tl_s, h1, h2]
theorem lw_pour (hI : INV σ A B im) (hi : iz + 6 ≤ len) (hl : len < 2 ^ 31) : LW len xs d iz 1284 σ := by
  have h : OK2 σ (Rn (some (len, xs)) (d + 100) 85 0 [some (.ref 0), some (.int (xs (iz + 1))), none, none, none, none, none] []) (Rn (some (len, xs)) (d + 100) 194 0 [some (.ref 93), some (.int (xs (iz + 1))), none, none, none, none] []) := op_pour (d := d + 50) hI
  obtain ⟨vv, σ1, σ2, A2, B2, im2, h1, h2, h3⟩ := h
  refine ⟨σ2, A2, B2, im2, ?_, h3⟩
  have j1 : inb (nI (iz + 1)) len = true := inb_n (by omega) (by omega)
  simp (disch := first | omega | exact shz_1000 | assumption) only [e223_1284, e223_1285, e223_1286, e223_1287, e223_1288, e223_1289, e223_1290, e223_1293, e223_1294, e223_1295, e223_1296, e223_1297, e223_1298, e223_1299, e223_1302, ↓reduceIte, nI_add, ix_n, vX, vM, clK_s, tl_s, h1, h2]
theorem lw_reads (hI : INV σ A B im) (hi : iz + 6 ≤ len) (hl : len < 2 ^ 31) : LW len xs d iz 1307 σ := by
  have h : OK2 σ (Rn (some (len, xs)) (d + 100) 86 0 [some (.ref 0), some (.int (xs (iz + 1))), none, none, none, none] []) (Rn (some (len, xs)) (d + 100) 195 0 [some (.ref 93), some (.int (xs (iz + 1))), none, none] []) := op_reads (d := d + 50) hI
  obtain ⟨vv, σ1, σ2, A2, B2, im2, h1, h2, h3⟩ := h
  refine ⟨σ2, A2, B2, im2, ?_, h3⟩
  have j1 : inb (nI (iz + 1)) len = true := inb_n (by omega) (by omega)
  simp (disch := first | omega | exact shz_1000 | assumption) only [e223_1307, e223_1308, e223_1309, e223_1310, e223_1311, e223_1312, e223_1313, e223_1316, e223_1317, e223_1318, e223_1319, e223_1320, e223_1321, e223_1322, e223_1325, ↓reduceIte, nI_add, ix_n, vX, vM, clK_s, tl_s, h1, h2]
theorem lw_copy (hI : INV σ A B im) (hi : iz + 6 ≤ len) (hl : len < 2 ^ 31) : LW len xs d iz 1330 σ := by
  have h : OK2 σ (Rn (some (len, xs)) (d + 100) 87 0 [some (.ref 0), some (.int (xs (iz + 1))), some (.int (xs (iz + 2))), some (.int (xs (iz + 3))), some (.int (xs (iz + 4))), some (.int (xs (iz + 5))), none, none] []) (Rn (some (len, xs)) (d + 100) 198 0 [some (.ref 93), some (.int (xs (iz + 1))), some (.int (xs (iz + 2))), some (.int (xs (iz + 3))), some (.int (xs (iz + 4))), some (.int (xs (iz + 5))), none] []) := op_copy (d := d + 50) hI
  obtain ⟨vv, σ1, σ2, A2, B2, im2, h1, h2, h3⟩ := h
  refine ⟨σ2, A2, B2, im2, ?_, h3⟩
  have j1 : inb (nI (iz + 1)) len = true := inb_n (by omega) (by omega)
  have j2 : inb (nI (iz + 2)) len = true := inb_n (by omega) (by omega)
  have j3 : inb (nI (iz + 3)) len = true := inb_n (by omega) (by omega)
  have j4 : inb (nI (iz + 4)) len = true := inb_n (by omega) (by omega)
  have j5 : inb (nI (iz + 5)) len = true := inb_n (by omega) (by omega)
  simp (disch := first | omega | exact shz_1000 | assumption) only [e223_1330, e223_1331, e223_1332, e223_1333, e223_1334, e223_1335, e223_1336, e223_1337, e223_1338, e223_1339, e223_1340, e223_1341, e223_1342, e223_1343, e223_1344, e223_1345, e223_1346, e223_1347, e223_1348, e223_1349, e223_1350, e223_1351, e223_1352, e223_1353, e223_1354, e223_1355, e223_1356, e223_1359, e223_1360, e223_1361, e223_1362, e223_1363, e223_1364, e223_1365, e223_1366, e223_1367, e223_1368, e223_1369, e223_1370, e223_1371, e223_1372, e223_1373, e223_1374, e223_1375, e223_1376, e223_1377, e223_1378, e223_1379, e223_1380, e223_1381, e223_1382, e223_1383, e223_1384, e223_1385, e223_1388, ↓reduceIte, nI_add, ix_n, vX, vM, clK_s, tl_s, h1, h2]
theorem lw_lay (hI : INV σ A B im) (hi : iz + 6 ≤ len) (hl : len < 2 ^ 31) : LW len xs d iz 1393 σ := by
  have h : OK2 σ (Rn (some (len, xs)) (d + 100) 88 0 [some (.ref 0), some (.int (xs (iz + 1))), some (.int (xs (iz + 2))), some (.int (xs (iz + 3))), none, none] []) (Rn (some (len, xs)) (d + 100) 200 0 [some (.ref 93), some (.int (xs (iz + 1))), some (.int (xs (iz + 2))), some (.int (xs (iz + 3))), none, none, none] []) := op_lay (d := d + 50) hI
  obtain ⟨vv, σ1, σ2, A2, B2, im2, h1, h2, h3⟩ := h
  refine ⟨σ2, A2, B2, im2, ?_, h3⟩
  have j1 : inb (nI (iz + 1)) len = true := inb_n (by omega) (by omega)
  have j2 : inb (nI (iz + 2)) len = true := inb_n (by omega) (by omega)
  have j3 : inb (nI (iz + 3)) len = true := inb_n (by omega) (by omega)
  simp (disch := first | omega | exact shz_1000 | assumption) only [e223_1393, e223_1394, e223_1395, e223_1396, e223_1397, e223_1398, e223_1399, e223_1400, e223_1401, e223_1402, e223_1403, e223_1404, e223_1405, e223_1406, e223_1407, e223_1408, e223_1409, e223_1412, e223_1413, e223_1414, e223_1415, e223_1416, e223_1417, e223_1418, e223_1419, e223_1420, e223_1421, e223_1422, e223_1423, e223_1424, e223_1425, e223_1426, e223_1427, e223_1428, e223_1431, ↓reduceIte, nI_add, ix_n, vX, vM, clK_s, tl_s, h1, h2]
theorem lw_ask (hI : INV σ A B im) (hi : iz + 6 ≤ len) (hl : len < 2 ^ 31) : LW len xs d iz 1436 σ := by
  have h : OK2 σ (Rn (some (len, xs)) (d + 100) 89 0 [some (.ref 0), some (.int (xs (iz + 1))), some (.int (xs (iz + 2))), none, none] []) (Rn (some (len, xs)) (d + 100) 201 0 [some (.ref 93), some (.int (xs (iz + 1))), some (.int (xs (iz + 2)))] []) := op_ask (d := d + 50) hI
  obtain ⟨vv, σ1, σ2, A2, B2, im2, h1, h2, h3⟩ := h
  refine ⟨σ2, A2, B2, im2, ?_, h3⟩
  have j1 : inb (nI (iz + 1)) len = true := inb_n (by omega) (by omega)
  have j2 : inb (nI (iz + 2)) len = true := inb_n (by omega) (by omega)
  simp (disch := first | omega | exact shz_1000 | assumption) only [e223_1436, e223_1437, e223_1438, e223_1439, e223_1440, e223_1441, e223_1442, e223_1443, e223_1444, e223_1445, e223_1446, e223_1447, e223_1450, e223_1451, e223_1452, e223_1453, e223_1454, e223_1455, e223_1456, e223_1457, e223_1458, e223_1459, e223_1460, e223_1461, e223_1464, ↓reduceIte, nI_add, ix_n, vX, vM, clK_s, tl_s, h1, h2]
theorem lw_item (hI : INV σ A B im) (hi : iz + 6 ≤ len) (hl : len < 2 ^ 31) : LW len xs d iz 1469 σ := by
  have h : OK2 σ (Rn (some (len, xs)) (d + 100) 90 0 [some (.ref 0), some (.int (xs (iz + 1))), some (.int (xs (iz + 2))), none, none] []) (Rn (some (len, xs)) (d + 100) 202 0 [some (.ref 93), some (.int (xs (iz + 1))), some (.int (xs (iz + 2))), none] []) := op_item (d := d + 50) hI
  obtain ⟨vv, σ1, σ2, A2, B2, im2, h1, h2, h3⟩ := h
  refine ⟨σ2, A2, B2, im2, ?_, h3⟩
  have j1 : inb (nI (iz + 1)) len = true := inb_n (by omega) (by omega)
  have j2 : inb (nI (iz + 2)) len = true := inb_n (by omega) (by omega)
  simp (disch := first | omega | exact shz_1000 | assumption) only [e223_1469, e223_1470, e223_1471, e223_1472, e223_1473, e223_1474, e223_1475, e223_1476, e223_1477, e223_1478, e223_1479, e223_1480, e223_1483, e223_1484, e223_1485, e223_1486, e223_1487, e223_1488, e223_1489, e223_1490, e223_1491, e223_1492, e223_1493, e223_1494, e223_1497, ↓reduceIte, nI_add, ix_n, vX, vM, clK_s, tl_s, h1, h2]
theorem lw_rest (hI : INV σ A B im) (hi : iz + 6 ≤ len) (hl : len < 2 ^ 31) : LW len xs d iz 1502 σ := by
  have h : OK2 σ (Rn (some (len, xs)) (d + 100) 91 0 [some (.ref 0), some (.int (xs (iz + 1))), some (.int (xs (iz + 2))), none] []) (Rn (some (len, xs)) (d + 100) 203 0 [some (.ref 93), some (.int (xs (iz + 1))), some (.int (xs (iz + 2)))] []) := op_rest (d := d + 50) hI
  obtain ⟨vv, σ1, σ2, A2, B2, im2, h1, h2, h3⟩ := h
  refine ⟨σ2, A2, B2, im2, ?_, h3⟩
  have j1 : inb (nI (iz + 1)) len = true := inb_n (by omega) (by omega)
  have j2 : inb (nI (iz + 2)) len = true := inb_n (by omega) (by omega)
  simp (disch := first | omega | exact shz_1000 | assumption) only [e223_1502, e223_1503, e223_1504, e223_1505, e223_1506, e223_1507, e223_1508, e223_1509, e223_1510, e223_1511, e223_1512, e223_1513, e223_1516, e223_1517, e223_1518, e223_1519, e223_1520, e223_1521, e223_1522, e223_1523, e223_1524, e223_1525, e223_1526, e223_1527, e223_1530, ↓reduceIte, nI_add, ix_n, vX, vM, clK_s, tl_s, h1, h2]
theorem lw_tell (hI : INV σ A B im) (hi : iz + 6 ≤ len) (hl : len < 2 ^ 31) : LW len xs d iz 1535 σ := by
  have h : OK2 σ (Rn (some (len, xs)) (d + 100) 92 0 [some (.ref 0), some (.int (xs (iz + 1)))] []) (Rn (some (len, xs)) (d + 100) 204 0 [some (.ref 93), some (.int (xs (iz + 1)))] []) := op_tell (d := d + 50) hI
  obtain ⟨vv, σ1, σ2, A2, B2, im2, h1, h2, h3⟩ := h
  refine ⟨σ2, A2, B2, im2, ?_, h3⟩
  have j1 : inb (nI (iz + 1)) len = true := inb_n (by omega) (by omega)
  simp (disch := first | omega | exact shz_1000 | assumption) only [e223_1535, e223_1536, e223_1537, e223_1538, e223_1539, e223_1540, e223_1541, e223_1544, e223_1545, e223_1546, e223_1547, e223_1548, e223_1549, e223_1550, e223_1553, ↓reduceIte, nI_add, ix_n, vX, vM, clK_s, tl_s, h1, h2]
theorem lw_check (hI : INV σ A B im) (hi : iz + 6 ≤ len) (hl : len < 2 ^ 31) : LW len xs d iz 1558 σ := by
  have h : OK2 σ (Rn (some (len, xs)) (d + 100) 93 0 [some (.ref 0), some (.int (xs (iz + 1))), none, none, none, none] []) (Rn (some (len, xs)) (d + 100) 206 0 [some (.ref 93), some (.int (xs (iz + 1))), none, none, none] []) := op_check (d := d + 50) hI
  obtain ⟨vv, σ1, σ2, A2, B2, im2, h1, h2, h3⟩ := h
  refine ⟨σ2, A2, B2, im2, ?_, h3⟩
  have j1 : inb (nI (iz + 1)) len = true := inb_n (by omega) (by omega)
  simp (disch := first | omega | exact shz_1000 | assumption) only [e223_1558, e223_1559, e223_1560, e223_1561, e223_1562, e223_1563, e223_1564, e223_1567, e223_1568, e223_1569, e223_1570, e223_1571, e223_1572, e223_1573, e223_1576, ↓reduceIte, nI_add, ix_n, vX, vM, clK_s, tl_s, h1, h2]
theorem lw_keep (hI : INV σ A B im) (hi : iz + 6 ≤ len) (hl : len < 2 ^ 31) : LW len xs d iz 1581 σ := by
  have h : OK2 σ (Rn (some (len, xs)) (d + 100) 94 0 [some (.ref 0)] []) (Rn (some (len, xs)) (d + 100) 207 0 [some (.ref 93)] []) := op_keep (d := d + 50) hI
  obtain ⟨vv, σ1, σ2, A2, B2, im2, h1, h2, h3⟩ := h
  refine ⟨σ2, A2, B2, im2, ?_, h3⟩
  simp (disch := first | omega | exact shz_1000 | assumption) only [e223_1581, e223_1582, e223_1585, e223_1586, e223_1589, ↓reduceIte, nI_add, ix_n, vX, vM, clK_s, tl_s, h1, h2]
theorem lw_back (hI : INV σ A B im) (hi : iz + 6 ≤ len) (hl : len < 2 ^ 31) : LW len xs d iz 1594 σ := by
  have h : OK2 σ (Rn (some (len, xs)) (d + 100) 95 0 [some (.ref 0)] []) (Rn (some (len, xs)) (d + 100) 208 0 [some (.ref 93)] []) := op_back (d := d + 50) hI
  obtain ⟨vv, σ1, σ2, A2, B2, im2, h1, h2, h3⟩ := h
  refine ⟨σ2, A2, B2, im2, ?_, h3⟩
  simp (disch := first | omega | exact shz_1000 | assumption) only [e223_1594, e223_1595, e223_1598, e223_1599, e223_1602, ↓reduceIte, nI_add, ix_n, vX, vM, clK_s, tl_s, h1, h2]
theorem lw_count (hI : INV σ A B im) (hi : iz + 6 ≤ len) (hl : len < 2 ^ 31) : LW len xs d iz 1607 σ := by
  have h : OK2 σ (Rn (some (len, xs)) (d + 100) 96 0 [some (.ref 0), some (.int (xs (iz + 1)))] []) (Rn (some (len, xs)) (d + 100) 209 0 [some (.ref 93), some (.int (xs (iz + 1)))] []) := op_count (d := d + 50) hI
  obtain ⟨vv, σ1, σ2, A2, B2, im2, h1, h2, h3⟩ := h
  refine ⟨σ2, A2, B2, im2, ?_, h3⟩
  have j1 : inb (nI (iz + 1)) len = true := inb_n (by omega) (by omega)
  simp (disch := first | omega | exact shz_1000 | assumption) only [e223_1607, e223_1608, e223_1609, e223_1610, e223_1611, e223_1612, e223_1613, e223_1616, e223_1617, e223_1618, e223_1619, e223_1620, e223_1621, e223_1622, e223_1625, ↓reduceIte, nI_add, ix_n, vX, vM, clK_s, tl_s, h1, h2]
theorem lw_all {cz : Nat} (hc : cz < 46) (hI : INV σ A B im) (hi : iz + 6 ≤ len) (hl : len < 2 ^ 31) : LW len xs d iz ([232, 295, 328, 361, 394, 437, 470, 503, 526, 559, 582, 605, 628, 651, 674, 697, 720, 753, 786, 819, 842, 865, 908, 951, 994, 1027, 1040, 1063, 1106, 1129, 1142, 1175, 1198, 1241, 1284, 1307, 1330, 1393, 1436, 1469, 1502, 1535, 1558, 1581, 1594, 1607].getD cz 1630) σ := by
  have hq : cz = 0 ∨ cz = 1 ∨ cz = 2 ∨ cz = 3 ∨ cz = 4 ∨ cz = 5 ∨ cz = 6 ∨ cz = 7 ∨ cz = 8 ∨ cz = 9 ∨ cz = 10 ∨ cz = 11 ∨ cz = 12 ∨ cz = 13 ∨ cz = 14 ∨ cz = 15 ∨ cz = 16 ∨ cz = 17 ∨ cz = 18 ∨ cz = 19 ∨ cz = 20 ∨ cz = 21 ∨ cz = 22 ∨ cz = 23 ∨ cz = 24 ∨ cz = 25 ∨ cz = 26 ∨ cz = 27 ∨ cz = 28 ∨ cz = 29 ∨ cz = 30 ∨ cz = 31 ∨ cz = 32 ∨ cz = 33 ∨ cz = 34 ∨ cz = 35 ∨ cz = 36 ∨ cz = 37 ∨ cz = 38 ∨ cz = 39 ∨ cz = 40 ∨ cz = 41 ∨ cz = 42 ∨ cz = 43 ∨ cz = 44 ∨ cz = 45 := by omega
  rcases hq with rfl | rfl | rfl | rfl | rfl | rfl | rfl | rfl | rfl | rfl | rfl | rfl | rfl | rfl | rfl | rfl | rfl | rfl | rfl | rfl | rfl | rfl | rfl | rfl | rfl | rfl | rfl | rfl | rfl | rfl | rfl | rfl | rfl | rfl | rfl | rfl | rfl | rfl | rfl | rfl | rfl | rfl | rfl | rfl | rfl | rfl
  · exact lw_one hI hi hl
  · exact lw_told hI hi hl
  · exact lw_as hI hi hl
  · exact lw_turns hI hi hl
  · exact lw_set hI hi hl
  · exact lw_moves hI hi hl
  · exact lw_screen hI hi hl
  · exact lw_at hI hi hl
  · exact lw_rule hI hi hl
  · exact lw_deal hI hi hl
  · exact lw_seed hI hi hl
  · exact lw_looks hI hi hl
  · exact lw_eyes hI hi hl
  · exact lw_sees hI hi hl
  · exact lw_days hI hi hl
  · exact lw_town hI hi hl
  · exact lw_curtain hI hi hl
  · exact lw_seat hI hi hl
  · exact lw_behind hI hi hl
  · exact lw_vanishes hI hi hl
  · exact lw_bumps hI hi hl
  · exact lw_loud hI hi hl
  · exact lw_loved hI hi hl
  · exact lw_becomes hI hi hl
  · exact lw_like hI hi hl
  · exact lw_fee hI hi hl
  · exact lw_fine hI hi hl
  · exact lw_feed hI hi hl
  · exact lw_trim hI hi hl
  · exact lw_text hI hi hl
  · exact lw_textTold hI hi hl
  · exact lw_why hI hi hl
  · exact lw_sheet hI hi hl
  · exact lw_mark hI hi hl
  · exact lw_pour hI hi hl
  · exact lw_reads hI hi hl
  · exact lw_copy hI hi hl
  · exact lw_lay hI hi hl
  · exact lw_ask hI hi hl
  · exact lw_item hI hi hl
  · exact lw_rest hI hi hl
  · exact lw_tell hI hi hl
  · exact lw_check hI hi hl
  · exact lw_keep hI hi hl
  · exact lw_back hI hi hl
  · exact lw_count hI hi hl
end Law
