/-! THE LAW, case by case; printed by program (wip/gen/lawcases.py) -/
section LC
variable {L : Nat} {xs : Nat → Int32} {S : Nat}
theorem nI_4 (a : Nat) : nI a + 4 = nI (a + 4) := nI_add a 4
theorem lw_c0 {i g d : Nat} {σ : Nat → Nat → Int32} {τ : Nat → Nat → Int64} (hi : i + 6 ≤ L) (hL : L ≤ 3072) (R : Rel g d σ τ) : ∃ σ' τ' g' d', pX 225 220 [.ref 1002, .ref 0, .ref 67, .int (nI i)] [] (mm L xs σ τ) 85 S = pX 225 1462 [.ref 1002, .ref 0, .ref 67, .int (nI i)] [] (mm L xs σ' τ') 85 S ∧ Rel g' d' σ' τ' := by
  obtain ⟨v, σ1, τ1, σ2, τ2, g', d', h1, h2, h3⟩ := (op_row : opI L xs S (fun M => pX 48 0 [.ref 0, .int (xs (i + 1)), .int (xs (i + 2))] [] M 85 S) (fun M => pX 141 0 [.ref 67, .int (xs (i + 1)), .int (xs (i + 2)), .null] [] M 85 S)) g d σ τ R
  dsimp only at h1 h2
  have ia1 : inb (nI (i + 1)) L := ib (by omega) (by omega)
  have ic1 : (nI (i + 1)).toNatClampNeg = i + 1 := cl (by omega)
  have ia2 : inb (nI (i + 2)) L := ib (by omega) (by omega)
  have ic2 : (nI (i + 2)).toNatClampNeg = i + 2 := cl (by omega)
  refine ⟨σ2, τ2, g', d', ?_, h3⟩
  simp only [iL_law_220, iL_law_221, iL_law_222, iL_law_223, iL_law_224, iL_law_225_s, iL_law_226, iL_law_227, iL_law_228, iL_law_229, iL_law_230_s, iL_law_231, iL_law_234, iL_law_235, iL_law_236, iL_law_237, iL_law_238, iL_law_239_s, iL_law_240, iL_law_241, iL_law_242, iL_law_243, iL_law_244_s, iL_law_245, iL_law_248, iL_law_251, iL_law_252, nI_1, nI_2, ia1, ic1, ia2, ic2, h1, h2, pK_i, if_true]
theorem lw_c1 {i g d : Nat} {σ : Nat → Nat → Int32} {τ : Nat → Nat → Int64} (hi : i + 6 ≤ L) (hL : L ≤ 3072) (R : Rel g d σ τ) : ∃ σ' τ' g' d', pX 225 253 [.ref 1002, .ref 0, .ref 67, .int (nI i)] [] (mm L xs σ τ) 85 S = pX 225 1462 [.ref 1002, .ref 0, .ref 67, .int (nI i)] [] (mm L xs σ' τ') 85 S ∧ Rel g' d' σ' τ' := by
  obtain ⟨v, σ1, τ1, σ2, τ2, g', d', h1, h2, h3⟩ := (op_lay : opI L xs S (fun M => pX 49 0 [.ref 0, .int (xs (i + 1)), .int (xs (i + 2)), .int (xs (i + 3)), .null] [] M 85 S) (fun M => pX 142 0 [.ref 67, .int (xs (i + 1)), .int (xs (i + 2)), .int (xs (i + 3)), .null] [] M 85 S)) g d σ τ R
  dsimp only at h1 h2
  have ia1 : inb (nI (i + 1)) L := ib (by omega) (by omega)
  have ic1 : (nI (i + 1)).toNatClampNeg = i + 1 := cl (by omega)
  have ia2 : inb (nI (i + 2)) L := ib (by omega) (by omega)
  have ic2 : (nI (i + 2)).toNatClampNeg = i + 2 := cl (by omega)
  have ia3 : inb (nI (i + 3)) L := ib (by omega) (by omega)
  have ic3 : (nI (i + 3)).toNatClampNeg = i + 3 := cl (by omega)
  refine ⟨σ2, τ2, g', d', ?_, h3⟩
  simp only [iL_law_253, iL_law_254, iL_law_255, iL_law_256, iL_law_257, iL_law_258_s, iL_law_259, iL_law_260, iL_law_261, iL_law_262, iL_law_263_s, iL_law_264, iL_law_265, iL_law_266, iL_law_267, iL_law_268_s, iL_law_269, iL_law_272, iL_law_273, iL_law_274, iL_law_275, iL_law_276, iL_law_277_s, iL_law_278, iL_law_279, iL_law_280, iL_law_281, iL_law_282_s, iL_law_283, iL_law_284, iL_law_285, iL_law_286, iL_law_287_s, iL_law_288, iL_law_291, iL_law_294, iL_law_295, nI_1, nI_2, nI_3, ia1, ic1, ia2, ic2, ia3, ic3, h1, h2, pK_i, if_true]
theorem lw_c2 {i g d : Nat} {σ : Nat → Nat → Int32} {τ : Nat → Nat → Int64} (hi : i + 6 ≤ L) (hL : L ≤ 3072) (R : Rel g d σ τ) : ∃ σ' τ' g' d', pX 225 296 [.ref 1002, .ref 0, .ref 67, .int (nI i)] [] (mm L xs σ τ) 85 S = pX 225 1462 [.ref 1002, .ref 0, .ref 67, .int (nI i)] [] (mm L xs σ' τ') 85 S ∧ Rel g' d' σ' τ' := by
  obtain ⟨v, σ1, τ1, σ2, τ2, g', d', h1, h2, h3⟩ := (op_at : opI L xs S (fun M => pX 50 0 [.ref 0, .int (xs (i + 1)), .int (xs (i + 2)), .null] [] M 85 S) (fun M => pX 143 0 [.ref 67, .int (xs (i + 1)), .int (xs (i + 2))] [] M 85 S)) g d σ τ R
  dsimp only at h1 h2
  have ia1 : inb (nI (i + 1)) L := ib (by omega) (by omega)
  have ic1 : (nI (i + 1)).toNatClampNeg = i + 1 := cl (by omega)
  have ia2 : inb (nI (i + 2)) L := ib (by omega) (by omega)
  have ic2 : (nI (i + 2)).toNatClampNeg = i + 2 := cl (by omega)
  refine ⟨σ2, τ2, g', d', ?_, h3⟩
  simp only [iL_law_296, iL_law_297, iL_law_298, iL_law_299, iL_law_300, iL_law_301_s, iL_law_302, iL_law_303, iL_law_304, iL_law_305, iL_law_306_s, iL_law_307, iL_law_310, iL_law_311, iL_law_312, iL_law_313, iL_law_314, iL_law_315_s, iL_law_316, iL_law_317, iL_law_318, iL_law_319, iL_law_320_s, iL_law_321, iL_law_324, iL_law_327, iL_law_328, nI_1, nI_2, ia1, ic1, ia2, ic2, h1, h2, pK_i, if_true]
theorem lw_c3 {i g d : Nat} {σ : Nat → Nat → Int32} {τ : Nat → Nat → Int64} (hi : i + 6 ≤ L) (hL : L ≤ 3072) (R : Rel g d σ τ) : ∃ σ' τ' g' d', pX 225 329 [.ref 1002, .ref 0, .ref 67, .int (nI i)] [] (mm L xs σ τ) 85 S = pX 225 1462 [.ref 1002, .ref 0, .ref 67, .int (nI i)] [] (mm L xs σ' τ') 85 S ∧ Rel g' d' σ' τ' := by
  obtain ⟨v, σ1, τ1, σ2, τ2, g', d', h1, h2, h3⟩ := (op_tear : opI L xs S (fun M => pX 51 0 [.ref 0, .int (xs (i + 1))] [] M 85 S) (fun M => pX 144 0 [.ref 67, .int (xs (i + 1))] [] M 85 S)) g d σ τ R
  dsimp only at h1 h2
  have ia1 : inb (nI (i + 1)) L := ib (by omega) (by omega)
  have ic1 : (nI (i + 1)).toNatClampNeg = i + 1 := cl (by omega)
  refine ⟨σ2, τ2, g', d', ?_, h3⟩
  simp only [iL_law_329, iL_law_330, iL_law_331, iL_law_332, iL_law_333, iL_law_334_s, iL_law_335, iL_law_338, iL_law_339, iL_law_340, iL_law_341, iL_law_342, iL_law_343_s, iL_law_344, iL_law_347, iL_law_350, iL_law_351, nI_1, ia1, ic1, h1, h2, pK_i, if_true]
theorem lw_c4 {i g d : Nat} {σ : Nat → Nat → Int32} {τ : Nat → Nat → Int64} (hi : i + 6 ≤ L) (hL : L ≤ 3072) (R : Rel g d σ τ) : ∃ σ' τ' g' d', pX 225 352 [.ref 1002, .ref 0, .ref 67, .int (nI i)] [] (mm L xs σ τ) 85 S = pX 225 1462 [.ref 1002, .ref 0, .ref 67, .int (nI i)] [] (mm L xs σ' τ') 85 S ∧ Rel g' d' σ' τ' := by
  obtain ⟨v, σ1, τ1, σ2, τ2, g', d', h1, h2, h3⟩ := (op_copy : opI L xs S (fun M => pX 52 0 [.ref 0, .int (xs (i + 1)), .int (xs (i + 2)), .int (xs (i + 3)), .int (xs (i + 4)), .int (xs (i + 5))] [] M 85 S) (fun M => pX 146 0 [.ref 67, .int (xs (i + 1)), .int (xs (i + 2)), .int (xs (i + 3)), .int (xs (i + 4)), .int (xs (i + 5)), .null, .null, .null] [] M 85 S)) g d σ τ R
  dsimp only at h1 h2
  have ia1 : inb (nI (i + 1)) L := ib (by omega) (by omega)
  have ic1 : (nI (i + 1)).toNatClampNeg = i + 1 := cl (by omega)
  have ia2 : inb (nI (i + 2)) L := ib (by omega) (by omega)
  have ic2 : (nI (i + 2)).toNatClampNeg = i + 2 := cl (by omega)
  have ia3 : inb (nI (i + 3)) L := ib (by omega) (by omega)
  have ic3 : (nI (i + 3)).toNatClampNeg = i + 3 := cl (by omega)
  have ia4 : inb (nI (i + 4)) L := ib (by omega) (by omega)
  have ic4 : (nI (i + 4)).toNatClampNeg = i + 4 := cl (by omega)
  have ia5 : inb (nI (i + 5)) L := ib (by omega) (by omega)
  have ic5 : (nI (i + 5)).toNatClampNeg = i + 5 := cl (by omega)
  refine ⟨σ2, τ2, g', d', ?_, h3⟩
  simp only [iL_law_352, iL_law_353, iL_law_354, iL_law_355, iL_law_356, iL_law_357_s, iL_law_358, iL_law_359, iL_law_360, iL_law_361, iL_law_362_s, iL_law_363, iL_law_364, iL_law_365, iL_law_366, iL_law_367_s, iL_law_368, iL_law_369, iL_law_370, iL_law_371, iL_law_372_s, iL_law_373, iL_law_374, iL_law_375, iL_law_376, iL_law_377_s, iL_law_378, iL_law_381, iL_law_382, iL_law_383, iL_law_384, iL_law_385, iL_law_386_s, iL_law_387, iL_law_388, iL_law_389, iL_law_390, iL_law_391_s, iL_law_392, iL_law_393, iL_law_394, iL_law_395, iL_law_396_s, iL_law_397, iL_law_398, iL_law_399, iL_law_400, iL_law_401_s, iL_law_402, iL_law_403, iL_law_404, iL_law_405, iL_law_406_s, iL_law_407, iL_law_410, iL_law_413, iL_law_414, nI_1, nI_2, nI_3, nI_4, nI_5, ia1, ic1, ia2, ic2, ia3, ic3, ia4, ic4, ia5, ic5, h1, h2, pK_i, if_true]
theorem lw_c5 {i g d : Nat} {σ : Nat → Nat → Int32} {τ : Nat → Nat → Int64} (hi : i + 6 ≤ L) (hL : L ≤ 3072) (R : Rel g d σ τ) : ∃ σ' τ' g' d', pX 225 415 [.ref 1002, .ref 0, .ref 67, .int (nI i)] [] (mm L xs σ τ) 85 S = pX 225 1462 [.ref 1002, .ref 0, .ref 67, .int (nI i)] [] (mm L xs σ' τ') 85 S ∧ Rel g' d' σ' τ' := by
  obtain ⟨v, σ1, τ1, σ2, τ2, g', d', h1, h2, h3⟩ := (op_mean : opI L xs S (fun M => pX 53 0 [.ref 0, .int (xs (i + 1)), .null, .null, .null, .null] [] M 85 S) (fun M => pX 147 0 [.ref 67, .int (xs (i + 1)), .null, .null, .null] [] M 85 S)) g d σ τ R
  dsimp only at h1 h2
  have ia1 : inb (nI (i + 1)) L := ib (by omega) (by omega)
  have ic1 : (nI (i + 1)).toNatClampNeg = i + 1 := cl (by omega)
  refine ⟨σ2, τ2, g', d', ?_, h3⟩
  simp only [iL_law_415, iL_law_416, iL_law_417, iL_law_418, iL_law_419, iL_law_420_s, iL_law_421, iL_law_424, iL_law_425, iL_law_426, iL_law_427, iL_law_428, iL_law_429_s, iL_law_430, iL_law_433, iL_law_436, iL_law_437, nI_1, ia1, ic1, h1, h2, pK_i, if_true]
theorem lw_c6 {i g d : Nat} {σ : Nat → Nat → Int32} {τ : Nat → Nat → Int64} (hi : i + 6 ≤ L) (hL : L ≤ 3072) (R : Rel g d σ τ) : ∃ σ' τ' g' d', pX 225 438 [.ref 1002, .ref 0, .ref 67, .int (nI i)] [] (mm L xs σ τ) 85 S = pX 225 1462 [.ref 1002, .ref 0, .ref 67, .int (nI i)] [] (mm L xs σ' τ') 85 S ∧ Rel g' d' σ' τ' := by
  obtain ⟨v, σ1, τ1, σ2, τ2, g', d', h1, h2, h3⟩ := (op_text : opI L xs S (fun M => pX 54 0 [.ref 0, .int (xs (i + 1)), .int (xs (i + 2))] [] M 85 S) (fun M => pX 148 0 [.ref 67, .int (xs (i + 1)), .int (xs (i + 2)), .null] [] M 85 S)) g d σ τ R
  dsimp only at h1 h2
  have ia1 : inb (nI (i + 1)) L := ib (by omega) (by omega)
  have ic1 : (nI (i + 1)).toNatClampNeg = i + 1 := cl (by omega)
  have ia2 : inb (nI (i + 2)) L := ib (by omega) (by omega)
  have ic2 : (nI (i + 2)).toNatClampNeg = i + 2 := cl (by omega)
  refine ⟨σ2, τ2, g', d', ?_, h3⟩
  simp only [iL_law_438, iL_law_439, iL_law_440, iL_law_441, iL_law_442, iL_law_443_s, iL_law_444, iL_law_445, iL_law_446, iL_law_447, iL_law_448_s, iL_law_449, iL_law_452, iL_law_453, iL_law_454, iL_law_455, iL_law_456, iL_law_457_s, iL_law_458, iL_law_459, iL_law_460, iL_law_461, iL_law_462_s, iL_law_463, iL_law_466, iL_law_469, iL_law_470, nI_1, nI_2, ia1, ic1, ia2, ic2, h1, h2, pK_i, if_true]
theorem lw_c7 {i g d : Nat} {σ : Nat → Nat → Int32} {τ : Nat → Nat → Int64} (hi : i + 6 ≤ L) (hL : L ≤ 3072) (R : Rel g d σ τ) : ∃ σ' τ' g' d', pX 225 471 [.ref 1002, .ref 0, .ref 67, .int (nI i)] [] (mm L xs σ τ) 85 S = pX 225 1462 [.ref 1002, .ref 0, .ref 67, .int (nI i)] [] (mm L xs σ' τ') 85 S ∧ Rel g' d' σ' τ' := by
  obtain ⟨v, σ1, τ1, σ2, τ2, g', d', h1, h2, h3⟩ := (op_put : opI L xs S (fun M => pX 55 0 [.ref 0, .int (xs (i + 1)), .int (xs (i + 2)), .int (xs (i + 3)), .null, .null] [] M 85 S) (fun M => pX 149 0 [.ref 67, .int (xs (i + 1)), .int (xs (i + 2)), .int (xs (i + 3)), .null] [] M 85 S)) g d σ τ R
  dsimp only at h1 h2
  have ia1 : inb (nI (i + 1)) L := ib (by omega) (by omega)
  have ic1 : (nI (i + 1)).toNatClampNeg = i + 1 := cl (by omega)
  have ia2 : inb (nI (i + 2)) L := ib (by omega) (by omega)
  have ic2 : (nI (i + 2)).toNatClampNeg = i + 2 := cl (by omega)
  have ia3 : inb (nI (i + 3)) L := ib (by omega) (by omega)
  have ic3 : (nI (i + 3)).toNatClampNeg = i + 3 := cl (by omega)
  refine ⟨σ2, τ2, g', d', ?_, h3⟩
  simp only [iL_law_471, iL_law_472, iL_law_473, iL_law_474, iL_law_475, iL_law_476_s, iL_law_477, iL_law_478, iL_law_479, iL_law_480, iL_law_481_s, iL_law_482, iL_law_483, iL_law_484, iL_law_485, iL_law_486_s, iL_law_487, iL_law_490, iL_law_491, iL_law_492, iL_law_493, iL_law_494, iL_law_495_s, iL_law_496, iL_law_497, iL_law_498, iL_law_499, iL_law_500_s, iL_law_501, iL_law_502, iL_law_503, iL_law_504, iL_law_505_s, iL_law_506, iL_law_509, iL_law_512, iL_law_513, nI_1, nI_2, nI_3, ia1, ic1, ia2, ic2, ia3, ic3, h1, h2, pK_i, if_true]
theorem lw_c8 {i g d : Nat} {σ : Nat → Nat → Int32} {τ : Nat → Nat → Int64} (hi : i + 6 ≤ L) (hL : L ≤ 3072) (R : Rel g d σ τ) : ∃ σ' τ' g' d', pX 225 514 [.ref 1002, .ref 0, .ref 67, .int (nI i)] [] (mm L xs σ τ) 85 S = pX 225 1462 [.ref 1002, .ref 0, .ref 67, .int (nI i)] [] (mm L xs σ' τ') 85 S ∧ Rel g' d' σ' τ' := by
  obtain ⟨v, σ1, τ1, σ2, τ2, g', d', h1, h2, h3⟩ := (op_fault : opI L xs S (fun M => pX 56 0 [.ref 0, .int (xs (i + 1))] [] M 85 S) (fun M => pX 157 0 [.ref 67, .int (xs (i + 1))] [] M 85 S)) g d σ τ R
  dsimp only at h1 h2
  have ia1 : inb (nI (i + 1)) L := ib (by omega) (by omega)
  have ic1 : (nI (i + 1)).toNatClampNeg = i + 1 := cl (by omega)
  refine ⟨σ2, τ2, g', d', ?_, h3⟩
  simp only [iL_law_514, iL_law_515, iL_law_516, iL_law_517, iL_law_518, iL_law_519_s, iL_law_520, iL_law_523, iL_law_524, iL_law_525, iL_law_526, iL_law_527, iL_law_528_s, iL_law_529, iL_law_532, iL_law_535, iL_law_536, nI_1, ia1, ic1, h1, h2, pK_i, if_true]
theorem lw_c9 {i g d : Nat} {σ : Nat → Nat → Int32} {τ : Nat → Nat → Int64} (hi : i + 6 ≤ L) (hL : L ≤ 3072) (R : Rel g d σ τ) : ∃ σ' τ' g' d', pX 225 537 [.ref 1002, .ref 0, .ref 67, .int (nI i)] [] (mm L xs σ τ) 85 S = pX 225 1462 [.ref 1002, .ref 0, .ref 67, .int (nI i)] [] (mm L xs σ' τ') 85 S ∧ Rel g' d' σ' τ' := by
  obtain ⟨v, σ1, τ1, σ2, τ2, g', d', h1, h2, h3⟩ := (op_bridge : opI L xs S (fun M => pX 57 0 [.ref 0, .int (xs (i + 1)), .null] [] M 85 S) (fun M => pX 158 0 [.ref 67, .int (xs (i + 1))] [] M 85 S)) g d σ τ R
  dsimp only at h1 h2
  have ia1 : inb (nI (i + 1)) L := ib (by omega) (by omega)
  have ic1 : (nI (i + 1)).toNatClampNeg = i + 1 := cl (by omega)
  refine ⟨σ2, τ2, g', d', ?_, h3⟩
  simp only [iL_law_537, iL_law_538, iL_law_539, iL_law_540, iL_law_541, iL_law_542_s, iL_law_543, iL_law_546, iL_law_547, iL_law_548, iL_law_549, iL_law_550, iL_law_551_s, iL_law_552, iL_law_555, iL_law_558, iL_law_559, nI_1, ia1, ic1, h1, h2, pK_i, if_true]
theorem lw_c10 {i g d : Nat} {σ : Nat → Nat → Int32} {τ : Nat → Nat → Int64} (hi : i + 6 ≤ L) (hL : L ≤ 3072) (R : Rel g d σ τ) : ∃ σ' τ' g' d', pX 225 560 [.ref 1002, .ref 0, .ref 67, .int (nI i)] [] (mm L xs σ τ) 85 S = pX 225 1462 [.ref 1002, .ref 0, .ref 67, .int (nI i)] [] (mm L xs σ' τ') 85 S ∧ Rel g' d' σ' τ' := by
  obtain ⟨v, σ1, τ1, σ2, τ2, g', d', h1, h2, h3⟩ := (op_basin : opI L xs S (fun M => pX 58 0 [.ref 0, .int (xs (i + 1))] [] M 85 S) (fun M => pX 166 0 [.ref 67, .int (xs (i + 1))] [] M 85 S)) g d σ τ R
  dsimp only at h1 h2
  have ia1 : inb (nI (i + 1)) L := ib (by omega) (by omega)
  have ic1 : (nI (i + 1)).toNatClampNeg = i + 1 := cl (by omega)
  refine ⟨σ2, τ2, g', d', ?_, h3⟩
  simp only [iL_law_560, iL_law_561, iL_law_562, iL_law_563, iL_law_564, iL_law_565_s, iL_law_566, iL_law_569, iL_law_570, iL_law_571, iL_law_572, iL_law_573, iL_law_574_s, iL_law_575, iL_law_578, iL_law_581, iL_law_582, nI_1, ia1, ic1, h1, h2, pK_i, if_true]
theorem lw_c11 {i g d : Nat} {σ : Nat → Nat → Int32} {τ : Nat → Nat → Int64} (hi : i + 6 ≤ L) (hL : L ≤ 3072) (R : Rel g d σ τ) : ∃ σ' τ' g' d', pX 225 583 [.ref 1002, .ref 0, .ref 67, .int (nI i)] [] (mm L xs σ τ) 85 S = pX 225 1462 [.ref 1002, .ref 0, .ref 67, .int (nI i)] [] (mm L xs σ' τ') 85 S ∧ Rel g' d' σ' τ' := by
  obtain ⟨v, σ1, τ1, σ2, τ2, g', d', h1, h2, h3⟩ := (op_gate : opI L xs S (fun M => pX 59 0 [.ref 0, .int (xs (i + 1)), .int (xs (i + 2))] [] M 85 S) (fun M => pX 168 0 [.ref 67, .int (xs (i + 1)), .int (xs (i + 2))] [] M 85 S)) g d σ τ R
  dsimp only at h1 h2
  have ia1 : inb (nI (i + 1)) L := ib (by omega) (by omega)
  have ic1 : (nI (i + 1)).toNatClampNeg = i + 1 := cl (by omega)
  have ia2 : inb (nI (i + 2)) L := ib (by omega) (by omega)
  have ic2 : (nI (i + 2)).toNatClampNeg = i + 2 := cl (by omega)
  refine ⟨σ2, τ2, g', d', ?_, h3⟩
  simp only [iL_law_583, iL_law_584, iL_law_585, iL_law_586, iL_law_587, iL_law_588_s, iL_law_589, iL_law_590, iL_law_591, iL_law_592, iL_law_593_s, iL_law_594, iL_law_597, iL_law_598, iL_law_599, iL_law_600, iL_law_601, iL_law_602_s, iL_law_603, iL_law_604, iL_law_605, iL_law_606, iL_law_607_s, iL_law_608, iL_law_611, iL_law_614, iL_law_615, nI_1, nI_2, ia1, ic1, ia2, ic2, h1, h2, pK_i, if_true]
theorem lw_c12 {i g d : Nat} {σ : Nat → Nat → Int32} {τ : Nat → Nat → Int64} (hi : i + 6 ≤ L) (hL : L ≤ 3072) (R : Rel g d σ τ) : ∃ σ' τ' g' d', pX 225 616 [.ref 1002, .ref 0, .ref 67, .int (nI i)] [] (mm L xs σ τ) 85 S = pX 225 1462 [.ref 1002, .ref 0, .ref 67, .int (nI i)] [] (mm L xs σ' τ') 85 S ∧ Rel g' d' σ' τ' := by
  obtain ⟨v, σ1, τ1, σ2, τ2, g', d', h1, h2, h3⟩ := (op_mark : opI L xs S (fun M => pX 60 0 [.ref 0, .int (xs (i + 1)), .int (xs (i + 2))] [] M 85 S) (fun M => pX 170 0 [.ref 67, .int (xs (i + 1)), .int (xs (i + 2)), .null, .null] [] M 85 S)) g d σ τ R
  dsimp only at h1 h2
  have ia1 : inb (nI (i + 1)) L := ib (by omega) (by omega)
  have ic1 : (nI (i + 1)).toNatClampNeg = i + 1 := cl (by omega)
  have ia2 : inb (nI (i + 2)) L := ib (by omega) (by omega)
  have ic2 : (nI (i + 2)).toNatClampNeg = i + 2 := cl (by omega)
  refine ⟨σ2, τ2, g', d', ?_, h3⟩
  simp only [iL_law_616, iL_law_617, iL_law_618, iL_law_619, iL_law_620, iL_law_621_s, iL_law_622, iL_law_623, iL_law_624, iL_law_625, iL_law_626_s, iL_law_627, iL_law_630, iL_law_631, iL_law_632, iL_law_633, iL_law_634, iL_law_635_s, iL_law_636, iL_law_637, iL_law_638, iL_law_639, iL_law_640_s, iL_law_641, iL_law_644, iL_law_647, iL_law_648, nI_1, nI_2, ia1, ic1, ia2, ic2, h1, h2, pK_i, if_true]
theorem lw_c13 {i g d : Nat} {σ : Nat → Nat → Int32} {τ : Nat → Nat → Int64} (hi : i + 6 ≤ L) (hL : L ≤ 3072) (R : Rel g d σ τ) : ∃ σ' τ' g' d', pX 225 649 [.ref 1002, .ref 0, .ref 67, .int (nI i)] [] (mm L xs σ τ) 85 S = pX 225 1462 [.ref 1002, .ref 0, .ref 67, .int (nI i)] [] (mm L xs σ' τ') 85 S ∧ Rel g' d' σ' τ' := by
  obtain ⟨v, σ1, τ1, σ2, τ2, g', d', h1, h2, h3⟩ := (op_turn : opI L xs S (fun M => pX 61 0 [.ref 0] [] M 85 S) (fun M => pX 172 0 [.ref 67] [] M 85 S)) g d σ τ R
  dsimp only at h1 h2
  refine ⟨σ2, τ2, g', d', ?_, h3⟩
  simp only [iL_law_649, iL_law_650, iL_law_653, iL_law_654, iL_law_657, iL_law_660, iL_law_661, h1, h2, pK_i, if_true]
theorem lw_c14 {i g d : Nat} {σ : Nat → Nat → Int32} {τ : Nat → Nat → Int64} (hi : i + 6 ≤ L) (hL : L ≤ 3072) (R : Rel g d σ τ) : ∃ σ' τ' g' d', pX 225 662 [.ref 1002, .ref 0, .ref 67, .int (nI i)] [] (mm L xs σ τ) 85 S = pX 225 1462 [.ref 1002, .ref 0, .ref 67, .int (nI i)] [] (mm L xs σ' τ') 85 S ∧ Rel g' d' σ' τ' := by
  obtain ⟨v, σ1, τ1, σ2, τ2, g', d', h1, h2, h3⟩ := (op_wind : opI L xs S (fun M => pX 62 0 [.ref 0, .int (xs (i + 1))] [] M 85 S) (fun M => pX 173 0 [.ref 67, .int (xs (i + 1))] [] M 85 S)) g d σ τ R
  dsimp only at h1 h2
  have ia1 : inb (nI (i + 1)) L := ib (by omega) (by omega)
  have ic1 : (nI (i + 1)).toNatClampNeg = i + 1 := cl (by omega)
  refine ⟨σ2, τ2, g', d', ?_, h3⟩
  simp only [iL_law_662, iL_law_663, iL_law_664, iL_law_665, iL_law_666, iL_law_667_s, iL_law_668, iL_law_671, iL_law_672, iL_law_673, iL_law_674, iL_law_675, iL_law_676_s, iL_law_677, iL_law_680, iL_law_683, iL_law_684, nI_1, ia1, ic1, h1, h2, pK_i, if_true]
theorem lw_c15 {i g d : Nat} {σ : Nat → Nat → Int32} {τ : Nat → Nat → Int64} (hi : i + 6 ≤ L) (hL : L ≤ 3072) (R : Rel g d σ τ) : ∃ σ' τ' g' d', pX 225 685 [.ref 1002, .ref 0, .ref 67, .int (nI i)] [] (mm L xs σ τ) 85 S = pX 225 1462 [.ref 1002, .ref 0, .ref 67, .int (nI i)] [] (mm L xs σ' τ') 85 S ∧ Rel g' d' σ' τ' := by
  obtain ⟨v, σ1, τ1, σ2, τ2, g', d', h1, h2, h3⟩ := (op_rain : opI L xs S (fun M => pX 63 0 [.ref 0, .int (xs (i + 1)), .int (xs (i + 2))] [] M 85 S) (fun M => pX 175 0 [.ref 67, .int (xs (i + 1)), .int (xs (i + 2))] [] M 85 S)) g d σ τ R
  dsimp only at h1 h2
  have ia1 : inb (nI (i + 1)) L := ib (by omega) (by omega)
  have ic1 : (nI (i + 1)).toNatClampNeg = i + 1 := cl (by omega)
  have ia2 : inb (nI (i + 2)) L := ib (by omega) (by omega)
  have ic2 : (nI (i + 2)).toNatClampNeg = i + 2 := cl (by omega)
  refine ⟨σ2, τ2, g', d', ?_, h3⟩
  simp only [iL_law_685, iL_law_686, iL_law_687, iL_law_688, iL_law_689, iL_law_690_s, iL_law_691, iL_law_692, iL_law_693, iL_law_694, iL_law_695_s, iL_law_696, iL_law_699, iL_law_700, iL_law_701, iL_law_702, iL_law_703, iL_law_704_s, iL_law_705, iL_law_706, iL_law_707, iL_law_708, iL_law_709_s, iL_law_710, iL_law_713, iL_law_716, iL_law_717, nI_1, nI_2, ia1, ic1, ia2, ic2, h1, h2, pK_i, if_true]
theorem lw_c16 {i g d : Nat} {σ : Nat → Nat → Int32} {τ : Nat → Nat → Int64} (hi : i + 6 ≤ L) (hL : L ≤ 3072) (R : Rel g d σ τ) : ∃ σ' τ' g' d', pX 225 718 [.ref 1002, .ref 0, .ref 67, .int (nI i)] [] (mm L xs σ τ) 85 S = pX 225 1462 [.ref 1002, .ref 0, .ref 67, .int (nI i)] [] (mm L xs σ' τ') 85 S ∧ Rel g' d' σ' τ' := by
  obtain ⟨v, σ1, τ1, σ2, τ2, g', d', h1, h2, h3⟩ := (op_draw : opI L xs S (fun M => pX 64 0 [.ref 0, .int (xs (i + 1)), .int (xs (i + 2))] [] M 85 S) (fun M => pX 176 0 [.ref 67, .int (xs (i + 1)), .int (xs (i + 2))] [] M 85 S)) g d σ τ R
  dsimp only at h1 h2
  have ia1 : inb (nI (i + 1)) L := ib (by omega) (by omega)
  have ic1 : (nI (i + 1)).toNatClampNeg = i + 1 := cl (by omega)
  have ia2 : inb (nI (i + 2)) L := ib (by omega) (by omega)
  have ic2 : (nI (i + 2)).toNatClampNeg = i + 2 := cl (by omega)
  refine ⟨σ2, τ2, g', d', ?_, h3⟩
  simp only [iL_law_718, iL_law_719, iL_law_720, iL_law_721, iL_law_722, iL_law_723_s, iL_law_724, iL_law_725, iL_law_726, iL_law_727, iL_law_728_s, iL_law_729, iL_law_732, iL_law_733, iL_law_734, iL_law_735, iL_law_736, iL_law_737_s, iL_law_738, iL_law_739, iL_law_740, iL_law_741, iL_law_742_s, iL_law_743, iL_law_746, iL_law_749, iL_law_750, nI_1, nI_2, ia1, ic1, ia2, ic2, h1, h2, pK_i, if_true]
theorem lw_c17 {i g d : Nat} {σ : Nat → Nat → Int32} {τ : Nat → Nat → Int64} (hi : i + 6 ≤ L) (hL : L ≤ 3072) (R : Rel g d σ τ) : ∃ σ' τ' g' d', pX 225 751 [.ref 1002, .ref 0, .ref 67, .int (nI i)] [] (mm L xs σ τ) 85 S = pX 225 1462 [.ref 1002, .ref 0, .ref 67, .int (nI i)] [] (mm L xs σ' τ') 85 S ∧ Rel g' d' σ' τ' := by
  obtain ⟨v, σ1, τ1, σ2, τ2, g', d', h1, h2, h3⟩ := (op_undo : opI L xs S (fun M => pX 65 0 [.ref 0, .int (xs (i + 1)), .null] [] M 85 S) (fun M => pX 177 0 [.ref 67, .int (xs (i + 1)), .null] [] M 85 S)) g d σ τ R
  dsimp only at h1 h2
  have ia1 : inb (nI (i + 1)) L := ib (by omega) (by omega)
  have ic1 : (nI (i + 1)).toNatClampNeg = i + 1 := cl (by omega)
  refine ⟨σ2, τ2, g', d', ?_, h3⟩
  simp only [iL_law_751, iL_law_752, iL_law_753, iL_law_754, iL_law_755, iL_law_756_s, iL_law_757, iL_law_760, iL_law_761, iL_law_762, iL_law_763, iL_law_764, iL_law_765_s, iL_law_766, iL_law_769, iL_law_772, iL_law_773, nI_1, ia1, ic1, h1, h2, pK_i, if_true]
theorem lw_c18 {i g d : Nat} {σ : Nat → Nat → Int32} {τ : Nat → Nat → Int64} (hi : i + 6 ≤ L) (hL : L ≤ 3072) (R : Rel g d σ τ) : ∃ σ' τ' g' d', pX 225 774 [.ref 1002, .ref 0, .ref 67, .int (nI i)] [] (mm L xs σ τ) 85 S = pX 225 1462 [.ref 1002, .ref 0, .ref 67, .int (nI i)] [] (mm L xs σ' τ') 85 S ∧ Rel g' d' σ' τ' := by
  obtain ⟨v, σ1, τ1, σ2, τ2, g', d', h1, h2, h3⟩ := (op_keep : opI L xs S (fun M => pX 66 0 [.ref 0, .int (xs (i + 1))] [] M 85 S) (fun M => pX 178 0 [.ref 67, .int (xs (i + 1)), .null] [] M 85 S)) g d σ τ R
  dsimp only at h1 h2
  have ia1 : inb (nI (i + 1)) L := ib (by omega) (by omega)
  have ic1 : (nI (i + 1)).toNatClampNeg = i + 1 := cl (by omega)
  refine ⟨σ2, τ2, g', d', ?_, h3⟩
  simp only [iL_law_774, iL_law_775, iL_law_776, iL_law_777, iL_law_778, iL_law_779_s, iL_law_780, iL_law_783, iL_law_784, iL_law_785, iL_law_786, iL_law_787, iL_law_788_s, iL_law_789, iL_law_792, iL_law_795, iL_law_796, nI_1, ia1, ic1, h1, h2, pK_i, if_true]
theorem lw_c19 {i g d : Nat} {σ : Nat → Nat → Int32} {τ : Nat → Nat → Int64} (hi : i + 6 ≤ L) (hL : L ≤ 3072) (R : Rel g d σ τ) : ∃ σ' τ' g' d', pX 225 797 [.ref 1002, .ref 0, .ref 67, .int (nI i)] [] (mm L xs σ τ) 85 S = pX 225 1462 [.ref 1002, .ref 0, .ref 67, .int (nI i)] [] (mm L xs σ' τ') 85 S ∧ Rel g' d' σ' τ' := by
  obtain ⟨v, σ1, τ1, σ2, τ2, g', d', h1, h2, h3⟩ := (op_on : opI L xs S (fun M => pX 67 0 [.ref 0, .int (xs (i + 1))] [] M 85 S) (fun M => pX 179 0 [.ref 67, .int (xs (i + 1)), .null] [] M 85 S)) g d σ τ R
  dsimp only at h1 h2
  have ia1 : inb (nI (i + 1)) L := ib (by omega) (by omega)
  have ic1 : (nI (i + 1)).toNatClampNeg = i + 1 := cl (by omega)
  refine ⟨σ2, τ2, g', d', ?_, h3⟩
  simp only [iL_law_797, iL_law_798, iL_law_799, iL_law_800, iL_law_801, iL_law_802_s, iL_law_803, iL_law_806, iL_law_807, iL_law_808, iL_law_809, iL_law_810, iL_law_811_s, iL_law_812, iL_law_815, iL_law_818, iL_law_819, nI_1, ia1, ic1, h1, h2, pK_i, if_true]
theorem lw_c20 {i g d : Nat} {σ : Nat → Nat → Int32} {τ : Nat → Nat → Int64} (hi : i + 6 ≤ L) (hL : L ≤ 3072) (R : Rel g d σ τ) : ∃ σ' τ' g' d', pX 225 820 [.ref 1002, .ref 0, .ref 67, .int (nI i)] [] (mm L xs σ τ) 85 S = pX 225 1462 [.ref 1002, .ref 0, .ref 67, .int (nI i)] [] (mm L xs σ' τ') 85 S ∧ Rel g' d' σ' τ' := by
  obtain ⟨v, σ1, τ1, σ2, τ2, g', d', h1, h2, h3⟩ := (op_flows : opI L xs S (fun M => pX 68 0 [.ref 0, .int (xs (i + 1)), .int (xs (i + 2)), .int (xs (i + 3)), .int (xs (i + 4)), .null] [] M 85 S) (fun M => pX 181 0 [.ref 67, .int (xs (i + 1)), .int (xs (i + 2)), .int (xs (i + 3)), .int (xs (i + 4))] [] M 85 S)) g d σ τ R
  dsimp only at h1 h2
  have ia1 : inb (nI (i + 1)) L := ib (by omega) (by omega)
  have ic1 : (nI (i + 1)).toNatClampNeg = i + 1 := cl (by omega)
  have ia2 : inb (nI (i + 2)) L := ib (by omega) (by omega)
  have ic2 : (nI (i + 2)).toNatClampNeg = i + 2 := cl (by omega)
  have ia3 : inb (nI (i + 3)) L := ib (by omega) (by omega)
  have ic3 : (nI (i + 3)).toNatClampNeg = i + 3 := cl (by omega)
  have ia4 : inb (nI (i + 4)) L := ib (by omega) (by omega)
  have ic4 : (nI (i + 4)).toNatClampNeg = i + 4 := cl (by omega)
  refine ⟨σ2, τ2, g', d', ?_, h3⟩
  simp only [iL_law_820, iL_law_821, iL_law_822, iL_law_823, iL_law_824, iL_law_825_s, iL_law_826, iL_law_827, iL_law_828, iL_law_829, iL_law_830_s, iL_law_831, iL_law_832, iL_law_833, iL_law_834, iL_law_835_s, iL_law_836, iL_law_837, iL_law_838, iL_law_839, iL_law_840_s, iL_law_841, iL_law_844, iL_law_845, iL_law_846, iL_law_847, iL_law_848, iL_law_849_s, iL_law_850, iL_law_851, iL_law_852, iL_law_853, iL_law_854_s, iL_law_855, iL_law_856, iL_law_857, iL_law_858, iL_law_859_s, iL_law_860, iL_law_861, iL_law_862, iL_law_863, iL_law_864_s, iL_law_865, iL_law_868, iL_law_871, iL_law_872, nI_1, nI_2, nI_3, nI_4, ia1, ic1, ia2, ic2, ia3, ic3, ia4, ic4, h1, h2, pK_i, if_true]
theorem lw_c21 {i g d : Nat} {σ : Nat → Nat → Int32} {τ : Nat → Nat → Int64} (hi : i + 6 ≤ L) (hL : L ≤ 3072) (R : Rel g d σ τ) : ∃ σ' τ' g' d', pX 225 873 [.ref 1002, .ref 0, .ref 67, .int (nI i)] [] (mm L xs σ τ) 85 S = pX 225 1462 [.ref 1002, .ref 0, .ref 67, .int (nI i)] [] (mm L xs σ' τ') 85 S ∧ Rel g' d' σ' τ' := by
  obtain ⟨v, σ1, τ1, σ2, τ2, g', d', h1, h2, h3⟩ := (op_level : opI L xs S (fun M => pX 69 0 [.ref 0, .int (xs (i + 1)), .int (xs (i + 2))] [] M 85 S) (fun M => pX 182 0 [.ref 67, .int (xs (i + 1)), .int (xs (i + 2)), .null, .null] [] M 85 S)) g d σ τ R
  dsimp only at h1 h2
  have ia1 : inb (nI (i + 1)) L := ib (by omega) (by omega)
  have ic1 : (nI (i + 1)).toNatClampNeg = i + 1 := cl (by omega)
  have ia2 : inb (nI (i + 2)) L := ib (by omega) (by omega)
  have ic2 : (nI (i + 2)).toNatClampNeg = i + 2 := cl (by omega)
  refine ⟨σ2, τ2, g', d', ?_, h3⟩
  simp only [iL_law_873, iL_law_874, iL_law_875, iL_law_876, iL_law_877, iL_law_878_s, iL_law_879, iL_law_880, iL_law_881, iL_law_882, iL_law_883_s, iL_law_884, iL_law_887, iL_law_888, iL_law_889, iL_law_890, iL_law_891, iL_law_892_s, iL_law_893, iL_law_894, iL_law_895, iL_law_896, iL_law_897_s, iL_law_898, iL_law_901, iL_law_904, iL_law_905, nI_1, nI_2, ia1, ic1, ia2, ic2, h1, h2, pK_i, if_true]
theorem lw_c22 {i g d : Nat} {σ : Nat → Nat → Int32} {τ : Nat → Nat → Int64} (hi : i + 6 ≤ L) (hL : L ≤ 3072) (R : Rel g d σ τ) : ∃ σ' τ' g' d', pX 225 906 [.ref 1002, .ref 0, .ref 67, .int (nI i)] [] (mm L xs σ τ) 85 S = pX 225 1462 [.ref 1002, .ref 0, .ref 67, .int (nI i)] [] (mm L xs σ' τ') 85 S ∧ Rel g' d' σ' τ' := by
  obtain ⟨v, σ1, τ1, σ2, τ2, g', d', h1, h2, h3⟩ := (op_stops : opI L xs S (fun M => pX 70 0 [.ref 0, .null, .null] [] M 85 S) (fun M => pX 183 0 [.ref 67, .null, .null] [] M 85 S)) g d σ τ R
  dsimp only at h1 h2
  refine ⟨σ2, τ2, g', d', ?_, h3⟩
  simp only [iL_law_906, iL_law_907, iL_law_910, iL_law_911, iL_law_914, iL_law_917, iL_law_918, h1, h2, pK_i, if_true]
theorem lw_c23 {i g d : Nat} {σ : Nat → Nat → Int32} {τ : Nat → Nat → Int64} (hi : i + 6 ≤ L) (hL : L ≤ 3072) (R : Rel g d σ τ) : ∃ σ' τ' g' d', pX 225 919 [.ref 1002, .ref 0, .ref 67, .int (nI i)] [] (mm L xs σ τ) 85 S = pX 225 1462 [.ref 1002, .ref 0, .ref 67, .int (nI i)] [] (mm L xs σ' τ') 85 S ∧ Rel g' d' σ' τ' := by
  obtain ⟨v, σ1, τ1, σ2, τ2, g', d', h1, h2, h3⟩ := (op_high : opI L xs S (fun M => pX 71 0 [.ref 0, .int (xs (i + 1)), .int (xs (i + 2)), .int (xs (i + 3)), .null, .null, .null, .null, .null, .null] [] M 85 S) (fun M => pX 186 0 [.ref 67, .int (xs (i + 1)), .int (xs (i + 2)), .int (xs (i + 3)), .null, .null] [] M 85 S)) g d σ τ R
  dsimp only at h1 h2
  have ia1 : inb (nI (i + 1)) L := ib (by omega) (by omega)
  have ic1 : (nI (i + 1)).toNatClampNeg = i + 1 := cl (by omega)
  have ia2 : inb (nI (i + 2)) L := ib (by omega) (by omega)
  have ic2 : (nI (i + 2)).toNatClampNeg = i + 2 := cl (by omega)
  have ia3 : inb (nI (i + 3)) L := ib (by omega) (by omega)
  have ic3 : (nI (i + 3)).toNatClampNeg = i + 3 := cl (by omega)
  refine ⟨σ2, τ2, g', d', ?_, h3⟩
  simp only [iL_law_919, iL_law_920, iL_law_921, iL_law_922, iL_law_923, iL_law_924_s, iL_law_925, iL_law_926, iL_law_927, iL_law_928, iL_law_929_s, iL_law_930, iL_law_931, iL_law_932, iL_law_933, iL_law_934_s, iL_law_935, iL_law_938, iL_law_939, iL_law_940, iL_law_941, iL_law_942, iL_law_943_s, iL_law_944, iL_law_945, iL_law_946, iL_law_947, iL_law_948_s, iL_law_949, iL_law_950, iL_law_951, iL_law_952, iL_law_953_s, iL_law_954, iL_law_957, iL_law_960, iL_law_961, nI_1, nI_2, nI_3, ia1, ic1, ia2, ic2, ia3, ic3, h1, h2, pK_i, if_true]
theorem lw_c24 {i g d : Nat} {σ : Nat → Nat → Int32} {τ : Nat → Nat → Int64} (hi : i + 6 ≤ L) (hL : L ≤ 3072) (R : Rel g d σ τ) : ∃ σ' τ' g' d', pX 225 962 [.ref 1002, .ref 0, .ref 67, .int (nI i)] [] (mm L xs σ τ) 85 S = pX 225 1462 [.ref 1002, .ref 0, .ref 67, .int (nI i)] [] (mm L xs σ' τ') 85 S ∧ Rel g' d' σ' τ' := by
  obtain ⟨v, σ1, τ1, σ2, τ2, g', d', h1, h2, h3⟩ := (op_even : opI L xs S (fun M => pX 72 0 [.ref 0, .int (xs (i + 1)), .null, .null, .null, .null] [] M 85 S) (fun M => pX 188 0 [.ref 67, .int (xs (i + 1)), .null, .null, .null] [] M 85 S)) g d σ τ R
  dsimp only at h1 h2
  have ia1 : inb (nI (i + 1)) L := ib (by omega) (by omega)
  have ic1 : (nI (i + 1)).toNatClampNeg = i + 1 := cl (by omega)
  refine ⟨σ2, τ2, g', d', ?_, h3⟩
  simp only [iL_law_962, iL_law_963, iL_law_964, iL_law_965, iL_law_966, iL_law_967_s, iL_law_968, iL_law_971, iL_law_972, iL_law_973, iL_law_974, iL_law_975, iL_law_976_s, iL_law_977, iL_law_980, iL_law_983, iL_law_984, nI_1, ia1, ic1, h1, h2, pK_i, if_true]
theorem lw_c25 {i g d : Nat} {σ : Nat → Nat → Int32} {τ : Nat → Nat → Int64} (hi : i + 6 ≤ L) (hL : L ≤ 3072) (R : Rel g d σ τ) : ∃ σ' τ' g' d', pX 225 985 [.ref 1002, .ref 0, .ref 67, .int (nI i)] [] (mm L xs σ τ) 85 S = pX 225 1462 [.ref 1002, .ref 0, .ref 67, .int (nI i)] [] (mm L xs σ' τ') 85 S ∧ Rel g' d' σ' τ' := by
  obtain ⟨v, σ1, τ1, σ2, τ2, g', d', h1, h2, h3⟩ := (op_opens : opI L xs S (fun M => pX 73 0 [.ref 0, .int (xs (i + 1)), .int (xs (i + 2)), .null] [] M 85 S) (fun M => pX 193 0 [.ref 67, .int (xs (i + 1)), .int (xs (i + 2)), .null, .null, .null] [] M 85 S)) g d σ τ R
  dsimp only at h1 h2
  have ia1 : inb (nI (i + 1)) L := ib (by omega) (by omega)
  have ic1 : (nI (i + 1)).toNatClampNeg = i + 1 := cl (by omega)
  have ia2 : inb (nI (i + 2)) L := ib (by omega) (by omega)
  have ic2 : (nI (i + 2)).toNatClampNeg = i + 2 := cl (by omega)
  refine ⟨σ2, τ2, g', d', ?_, h3⟩
  simp only [iL_law_985, iL_law_986, iL_law_987, iL_law_988, iL_law_989, iL_law_990_s, iL_law_991, iL_law_992, iL_law_993, iL_law_994, iL_law_995_s, iL_law_996, iL_law_999, iL_law_1000, iL_law_1001, iL_law_1002, iL_law_1003, iL_law_1004_s, iL_law_1005, iL_law_1006, iL_law_1007, iL_law_1008, iL_law_1009_s, iL_law_1010, iL_law_1013, iL_law_1016, iL_law_1017, nI_1, nI_2, ia1, ic1, ia2, ic2, h1, h2, pK_i, if_true]
theorem lw_c26 {i g d : Nat} {σ : Nat → Nat → Int32} {τ : Nat → Nat → Int64} (hi : i + 6 ≤ L) (hL : L ≤ 3072) (R : Rel g d σ τ) : ∃ σ' τ' g' d', pX 225 1018 [.ref 1002, .ref 0, .ref 67, .int (nI i)] [] (mm L xs σ τ) 85 S = pX 225 1462 [.ref 1002, .ref 0, .ref 67, .int (nI i)] [] (mm L xs σ' τ') 85 S ∧ Rel g' d' σ' τ' := by
  obtain ⟨v, σ1, τ1, σ2, τ2, g', d', h1, h2, h3⟩ := (op_sure : opI L xs S (fun M => pX 74 0 [.ref 0, .int (xs (i + 1)), .int (xs (i + 2)), .null, .null] [] M 85 S) (fun M => pX 194 0 [.ref 67, .int (xs (i + 1)), .int (xs (i + 2)), .null, .null, .null, .null] [] M 85 S)) g d σ τ R
  dsimp only at h1 h2
  have ia1 : inb (nI (i + 1)) L := ib (by omega) (by omega)
  have ic1 : (nI (i + 1)).toNatClampNeg = i + 1 := cl (by omega)
  have ia2 : inb (nI (i + 2)) L := ib (by omega) (by omega)
  have ic2 : (nI (i + 2)).toNatClampNeg = i + 2 := cl (by omega)
  refine ⟨σ2, τ2, g', d', ?_, h3⟩
  simp only [iL_law_1018, iL_law_1019, iL_law_1020, iL_law_1021, iL_law_1022, iL_law_1023_s, iL_law_1024, iL_law_1025, iL_law_1026, iL_law_1027, iL_law_1028_s, iL_law_1029, iL_law_1032, iL_law_1033, iL_law_1034, iL_law_1035, iL_law_1036, iL_law_1037_s, iL_law_1038, iL_law_1039, iL_law_1040, iL_law_1041, iL_law_1042_s, iL_law_1043, iL_law_1046, iL_law_1049, iL_law_1050, nI_1, nI_2, ia1, ic1, ia2, ic2, h1, h2, pK_i, if_true]
theorem lw_c27 {i g d : Nat} {σ : Nat → Nat → Int32} {τ : Nat → Nat → Int64} (hi : i + 6 ≤ L) (hL : L ≤ 3072) (R : Rel g d σ τ) : ∃ σ' τ' g' d', pX 225 1051 [.ref 1002, .ref 0, .ref 67, .int (nI i)] [] (mm L xs σ τ) 85 S = pX 225 1462 [.ref 1002, .ref 0, .ref 67, .int (nI i)] [] (mm L xs σ' τ') 85 S ∧ Rel g' d' σ' τ' := by
  obtain ⟨v, σ1, τ1, σ2, τ2, g', d', h1, h2, h3⟩ := (op_next : opI L xs S (fun M => pX 75 0 [.ref 0, .int (xs (i + 1)), .int (xs (i + 2)), .null, .null, .null, .null, .null] [] M 85 S) (fun M => pX 196 0 [.ref 67, .int (xs (i + 1)), .int (xs (i + 2)), .null, .null, .null] [] M 85 S)) g d σ τ R
  dsimp only at h1 h2
  have ia1 : inb (nI (i + 1)) L := ib (by omega) (by omega)
  have ic1 : (nI (i + 1)).toNatClampNeg = i + 1 := cl (by omega)
  have ia2 : inb (nI (i + 2)) L := ib (by omega) (by omega)
  have ic2 : (nI (i + 2)).toNatClampNeg = i + 2 := cl (by omega)
  refine ⟨σ2, τ2, g', d', ?_, h3⟩
  simp only [iL_law_1051, iL_law_1052, iL_law_1053, iL_law_1054, iL_law_1055, iL_law_1056_s, iL_law_1057, iL_law_1058, iL_law_1059, iL_law_1060, iL_law_1061_s, iL_law_1062, iL_law_1065, iL_law_1066, iL_law_1067, iL_law_1068, iL_law_1069, iL_law_1070_s, iL_law_1071, iL_law_1072, iL_law_1073, iL_law_1074, iL_law_1075_s, iL_law_1076, iL_law_1079, iL_law_1082, iL_law_1083, nI_1, nI_2, ia1, ic1, ia2, ic2, h1, h2, pK_i, if_true]
theorem lw_c28 {i g d : Nat} {σ : Nat → Nat → Int32} {τ : Nat → Nat → Int64} (hi : i + 6 ≤ L) (hL : L ≤ 3072) (R : Rel g d σ τ) : ∃ σ' τ' g' d', pX 225 1084 [.ref 1002, .ref 0, .ref 67, .int (nI i)] [] (mm L xs σ τ) 85 S = pX 225 1462 [.ref 1002, .ref 0, .ref 67, .int (nI i)] [] (mm L xs σ' τ') 85 S ∧ Rel g' d' σ' τ' := by
  obtain ⟨v, σ1, τ1, σ2, τ2, g', d', h1, h2, h3⟩ := (op_widths : opI L xs S (fun M => pX 76 0 [.ref 0, .int (xs (i + 1)), .int (xs (i + 2)), .int (xs (i + 3)), .null, .null, .null] [] M 85 S) (fun M => pX 198 0 [.ref 67, .int (xs (i + 1)), .int (xs (i + 2)), .int (xs (i + 3)), .null, .null, .null, .null] [] M 85 S)) g d σ τ R
  dsimp only at h1 h2
  have ia1 : inb (nI (i + 1)) L := ib (by omega) (by omega)
  have ic1 : (nI (i + 1)).toNatClampNeg = i + 1 := cl (by omega)
  have ia2 : inb (nI (i + 2)) L := ib (by omega) (by omega)
  have ic2 : (nI (i + 2)).toNatClampNeg = i + 2 := cl (by omega)
  have ia3 : inb (nI (i + 3)) L := ib (by omega) (by omega)
  have ic3 : (nI (i + 3)).toNatClampNeg = i + 3 := cl (by omega)
  refine ⟨σ2, τ2, g', d', ?_, h3⟩
  simp only [iL_law_1084, iL_law_1085, iL_law_1086, iL_law_1087, iL_law_1088, iL_law_1089_s, iL_law_1090, iL_law_1091, iL_law_1092, iL_law_1093, iL_law_1094_s, iL_law_1095, iL_law_1096, iL_law_1097, iL_law_1098, iL_law_1099_s, iL_law_1100, iL_law_1103, iL_law_1104, iL_law_1105, iL_law_1106, iL_law_1107, iL_law_1108_s, iL_law_1109, iL_law_1110, iL_law_1111, iL_law_1112, iL_law_1113_s, iL_law_1114, iL_law_1115, iL_law_1116, iL_law_1117, iL_law_1118_s, iL_law_1119, iL_law_1122, iL_law_1125, iL_law_1126, nI_1, nI_2, nI_3, ia1, ic1, ia2, ic2, ia3, ic3, h1, h2, pK_i, if_true]
theorem lw_c29 {i g d : Nat} {σ : Nat → Nat → Int32} {τ : Nat → Nat → Int64} (hi : i + 6 ≤ L) (hL : L ≤ 3072) (R : Rel g d σ τ) : ∃ σ' τ' g' d', pX 225 1127 [.ref 1002, .ref 0, .ref 67, .int (nI i)] [] (mm L xs σ τ) 85 S = pX 225 1462 [.ref 1002, .ref 0, .ref 67, .int (nI i)] [] (mm L xs σ' τ') 85 S ∧ Rel g' d' σ' τ' := by
  obtain ⟨v, σ1, τ1, σ2, τ2, g', d', h1, h2, h3⟩ := (op_kinds : opI L xs S (fun M => pX 77 0 [.ref 0, .int (xs (i + 1)), .int (xs (i + 2)), .int (xs (i + 3)), .null, .null, .null] [] M 85 S) (fun M => pX 199 0 [.ref 67, .int (xs (i + 1)), .int (xs (i + 2)), .int (xs (i + 3)), .null, .null, .null, .null] [] M 85 S)) g d σ τ R
  dsimp only at h1 h2
  have ia1 : inb (nI (i + 1)) L := ib (by omega) (by omega)
  have ic1 : (nI (i + 1)).toNatClampNeg = i + 1 := cl (by omega)
  have ia2 : inb (nI (i + 2)) L := ib (by omega) (by omega)
  have ic2 : (nI (i + 2)).toNatClampNeg = i + 2 := cl (by omega)
  have ia3 : inb (nI (i + 3)) L := ib (by omega) (by omega)
  have ic3 : (nI (i + 3)).toNatClampNeg = i + 3 := cl (by omega)
  refine ⟨σ2, τ2, g', d', ?_, h3⟩
  simp only [iL_law_1127, iL_law_1128, iL_law_1129, iL_law_1130, iL_law_1131, iL_law_1132_s, iL_law_1133, iL_law_1134, iL_law_1135, iL_law_1136, iL_law_1137_s, iL_law_1138, iL_law_1139, iL_law_1140, iL_law_1141, iL_law_1142_s, iL_law_1143, iL_law_1146, iL_law_1147, iL_law_1148, iL_law_1149, iL_law_1150, iL_law_1151_s, iL_law_1152, iL_law_1153, iL_law_1154, iL_law_1155, iL_law_1156_s, iL_law_1157, iL_law_1158, iL_law_1159, iL_law_1160, iL_law_1161_s, iL_law_1162, iL_law_1165, iL_law_1168, iL_law_1169, nI_1, nI_2, nI_3, ia1, ic1, ia2, ic2, ia3, ic3, h1, h2, pK_i, if_true]
theorem lw_c30 {i g d : Nat} {σ : Nat → Nat → Int32} {τ : Nat → Nat → Int64} (hi : i + 6 ≤ L) (hL : L ≤ 3072) (R : Rel g d σ τ) : ∃ σ' τ' g' d', pX 225 1170 [.ref 1002, .ref 0, .ref 67, .int (nI i)] [] (mm L xs σ τ) 85 S = pX 225 1462 [.ref 1002, .ref 0, .ref 67, .int (nI i)] [] (mm L xs σ' τ') 85 S ∧ Rel g' d' σ' τ' := by
  obtain ⟨v, σ1, τ1, σ2, τ2, g', d', h1, h2, h3⟩ := (op_sets : opI L xs S (fun M => pX 78 0 [.ref 0, .int (xs (i + 1)), .null] [] M 85 S) (fun M => pX 201 0 [.ref 67, .int (xs (i + 1)), .null, .null, .null, .null] [] M 85 S)) g d σ τ R
  dsimp only at h1 h2
  have ia1 : inb (nI (i + 1)) L := ib (by omega) (by omega)
  have ic1 : (nI (i + 1)).toNatClampNeg = i + 1 := cl (by omega)
  refine ⟨σ2, τ2, g', d', ?_, h3⟩
  simp only [iL_law_1170, iL_law_1171, iL_law_1172, iL_law_1173, iL_law_1174, iL_law_1175_s, iL_law_1176, iL_law_1179, iL_law_1180, iL_law_1181, iL_law_1182, iL_law_1183, iL_law_1184_s, iL_law_1185, iL_law_1188, iL_law_1191, iL_law_1192, nI_1, ia1, ic1, h1, h2, pK_i, if_true]
theorem lw_c31 {i g d : Nat} {σ : Nat → Nat → Int32} {τ : Nat → Nat → Int64} (hi : i + 6 ≤ L) (hL : L ≤ 3072) (R : Rel g d σ τ) : ∃ σ' τ' g' d', pX 225 1193 [.ref 1002, .ref 0, .ref 67, .int (nI i)] [] (mm L xs σ τ) 85 S = pX 225 1462 [.ref 1002, .ref 0, .ref 67, .int (nI i)] [] (mm L xs σ' τ') 85 S ∧ Rel g' d' σ' τ' := by
  obtain ⟨v, σ1, τ1, σ2, τ2, g', d', h1, h2, h3⟩ := (op_surely : opI L xs S (fun M => pX 79 0 [.ref 0, .int (xs (i + 1)), .null, .null] [] M 85 S) (fun M => pX 202 0 [.ref 67, .int (xs (i + 1)), .null, .null, .null, .null, .null] [] M 85 S)) g d σ τ R
  dsimp only at h1 h2
  have ia1 : inb (nI (i + 1)) L := ib (by omega) (by omega)
  have ic1 : (nI (i + 1)).toNatClampNeg = i + 1 := cl (by omega)
  refine ⟨σ2, τ2, g', d', ?_, h3⟩
  simp only [iL_law_1193, iL_law_1194, iL_law_1195, iL_law_1196, iL_law_1197, iL_law_1198_s, iL_law_1199, iL_law_1202, iL_law_1203, iL_law_1204, iL_law_1205, iL_law_1206, iL_law_1207_s, iL_law_1208, iL_law_1211, iL_law_1214, iL_law_1215, nI_1, ia1, ic1, h1, h2, pK_i, if_true]
theorem lw_c32 {i g d : Nat} {σ : Nat → Nat → Int32} {τ : Nat → Nat → Int64} (hi : i + 6 ≤ L) (hL : L ≤ 3072) (R : Rel g d σ τ) : ∃ σ' τ' g' d', pX 225 1216 [.ref 1002, .ref 0, .ref 67, .int (nI i)] [] (mm L xs σ τ) 85 S = pX 225 1462 [.ref 1002, .ref 0, .ref 67, .int (nI i)] [] (mm L xs σ' τ') 85 S ∧ Rel g' d' σ' τ' := by
  obtain ⟨v, σ1, τ1, σ2, τ2, g', d', h1, h2, h3⟩ := (op_duel : opI L xs S (fun M => pX 80 0 [.ref 0, .int (xs (i + 1)), .null, .null, .null] [] M 85 S) (fun M => pX 205 0 [.ref 67, .int (xs (i + 1)), .null, .null, .null, .null, .null, .null] [] M 85 S)) g d σ τ R
  dsimp only at h1 h2
  have ia1 : inb (nI (i + 1)) L := ib (by omega) (by omega)
  have ic1 : (nI (i + 1)).toNatClampNeg = i + 1 := cl (by omega)
  refine ⟨σ2, τ2, g', d', ?_, h3⟩
  simp only [iL_law_1216, iL_law_1217, iL_law_1218, iL_law_1219, iL_law_1220, iL_law_1221_s, iL_law_1222, iL_law_1225, iL_law_1226, iL_law_1227, iL_law_1228, iL_law_1229, iL_law_1230_s, iL_law_1231, iL_law_1234, iL_law_1237, iL_law_1238, nI_1, ia1, ic1, h1, h2, pK_i, if_true]
theorem lw_c33 {i g d : Nat} {σ : Nat → Nat → Int32} {τ : Nat → Nat → Int64} (hi : i + 6 ≤ L) (hL : L ≤ 3072) (R : Rel g d σ τ) : ∃ σ' τ' g' d', pX 225 1239 [.ref 1002, .ref 0, .ref 67, .int (nI i)] [] (mm L xs σ τ) 85 S = pX 225 1462 [.ref 1002, .ref 0, .ref 67, .int (nI i)] [] (mm L xs σ' τ') 85 S ∧ Rel g' d' σ' τ' := by
  obtain ⟨v, σ1, τ1, σ2, τ2, g', d', h1, h2, h3⟩ := (op_odds : opI L xs S (fun M => pX 81 0 [.ref 0, .int (xs (i + 1)), .int (xs (i + 2)), .int (xs (i + 3)), .null, .null, .null, .null, .null] [] M 85 S) (fun M => pX 208 0 [.ref 67, .int (xs (i + 1)), .int (xs (i + 2)), .int (xs (i + 3))] [] M 85 S)) g d σ τ R
  dsimp only at h1 h2
  have ia1 : inb (nI (i + 1)) L := ib (by omega) (by omega)
  have ic1 : (nI (i + 1)).toNatClampNeg = i + 1 := cl (by omega)
  have ia2 : inb (nI (i + 2)) L := ib (by omega) (by omega)
  have ic2 : (nI (i + 2)).toNatClampNeg = i + 2 := cl (by omega)
  have ia3 : inb (nI (i + 3)) L := ib (by omega) (by omega)
  have ic3 : (nI (i + 3)).toNatClampNeg = i + 3 := cl (by omega)
  refine ⟨σ2, τ2, g', d', ?_, h3⟩
  simp only [iL_law_1239, iL_law_1240, iL_law_1241, iL_law_1242, iL_law_1243, iL_law_1244_s, iL_law_1245, iL_law_1246, iL_law_1247, iL_law_1248, iL_law_1249_s, iL_law_1250, iL_law_1251, iL_law_1252, iL_law_1253, iL_law_1254_s, iL_law_1255, iL_law_1258, iL_law_1259, iL_law_1260, iL_law_1261, iL_law_1262, iL_law_1263_s, iL_law_1264, iL_law_1265, iL_law_1266, iL_law_1267, iL_law_1268_s, iL_law_1269, iL_law_1270, iL_law_1271, iL_law_1272, iL_law_1273_s, iL_law_1274, iL_law_1277, iL_law_1280, iL_law_1281, nI_1, nI_2, nI_3, ia1, ic1, ia2, ic2, ia3, ic3, h1, h2, pK_i, if_true]
theorem lw_c34 {i g d : Nat} {σ : Nat → Nat → Int32} {τ : Nat → Nat → Int64} (hi : i + 6 ≤ L) (hL : L ≤ 3072) (R : Rel g d σ τ) : ∃ σ' τ' g' d', pX 225 1282 [.ref 1002, .ref 0, .ref 67, .int (nI i)] [] (mm L xs σ τ) 85 S = pX 225 1462 [.ref 1002, .ref 0, .ref 67, .int (nI i)] [] (mm L xs σ' τ') 85 S ∧ Rel g' d' σ' τ' := by
  obtain ⟨v, σ1, τ1, σ2, τ2, g', d', h1, h2, h3⟩ := (op_mid : opI L xs S (fun M => pX 82 0 [.ref 0, .int (xs (i + 1)), .int (xs (i + 2)), .null, .null, .null, .null, .null] [] M 85 S) (fun M => pX 209 0 [.ref 67, .int (xs (i + 1)), .int (xs (i + 2))] [] M 85 S)) g d σ τ R
  dsimp only at h1 h2
  have ia1 : inb (nI (i + 1)) L := ib (by omega) (by omega)
  have ic1 : (nI (i + 1)).toNatClampNeg = i + 1 := cl (by omega)
  have ia2 : inb (nI (i + 2)) L := ib (by omega) (by omega)
  have ic2 : (nI (i + 2)).toNatClampNeg = i + 2 := cl (by omega)
  refine ⟨σ2, τ2, g', d', ?_, h3⟩
  simp only [iL_law_1282, iL_law_1283, iL_law_1284, iL_law_1285, iL_law_1286, iL_law_1287_s, iL_law_1288, iL_law_1289, iL_law_1290, iL_law_1291, iL_law_1292_s, iL_law_1293, iL_law_1296, iL_law_1297, iL_law_1298, iL_law_1299, iL_law_1300, iL_law_1301_s, iL_law_1302, iL_law_1303, iL_law_1304, iL_law_1305, iL_law_1306_s, iL_law_1307, iL_law_1310, iL_law_1313, iL_law_1314, nI_1, nI_2, ia1, ic1, ia2, ic2, h1, h2, pK_i, if_true]
theorem lw_c35 {i g d : Nat} {σ : Nat → Nat → Int32} {τ : Nat → Nat → Int64} (hi : i + 6 ≤ L) (hL : L ≤ 3072) (R : Rel g d σ τ) : ∃ σ' τ' g' d', pX 225 1315 [.ref 1002, .ref 0, .ref 67, .int (nI i)] [] (mm L xs σ τ) 85 S = pX 225 1462 [.ref 1002, .ref 0, .ref 67, .int (nI i)] [] (mm L xs σ' τ') 85 S ∧ Rel g' d' σ' τ' := by
  obtain ⟨v, σ1, τ1, σ2, τ2, g', d', h1, h2, h3⟩ := (op_lots : opI L xs S (fun M => pX 83 0 [.ref 0, .int (xs (i + 1)), .int (xs (i + 2)), .null, .null, .null] [] M 85 S) (fun M => pX 211 0 [.ref 67, .int (xs (i + 1)), .int (xs (i + 2)), .null, .null, .null] [] M 85 S)) g d σ τ R
  dsimp only at h1 h2
  have ia1 : inb (nI (i + 1)) L := ib (by omega) (by omega)
  have ic1 : (nI (i + 1)).toNatClampNeg = i + 1 := cl (by omega)
  have ia2 : inb (nI (i + 2)) L := ib (by omega) (by omega)
  have ic2 : (nI (i + 2)).toNatClampNeg = i + 2 := cl (by omega)
  refine ⟨σ2, τ2, g', d', ?_, h3⟩
  simp only [iL_law_1315, iL_law_1316, iL_law_1317, iL_law_1318, iL_law_1319, iL_law_1320_s, iL_law_1321, iL_law_1322, iL_law_1323, iL_law_1324, iL_law_1325_s, iL_law_1326, iL_law_1329, iL_law_1330, iL_law_1331, iL_law_1332, iL_law_1333, iL_law_1334_s, iL_law_1335, iL_law_1336, iL_law_1337, iL_law_1338, iL_law_1339_s, iL_law_1340, iL_law_1343, iL_law_1346, iL_law_1347, nI_1, nI_2, ia1, ic1, ia2, ic2, h1, h2, pK_i, if_true]
theorem lw_c36 {i g d : Nat} {σ : Nat → Nat → Int32} {τ : Nat → Nat → Int64} (hi : i + 6 ≤ L) (hL : L ≤ 3072) (R : Rel g d σ τ) : ∃ σ' τ' g' d', pX 225 1348 [.ref 1002, .ref 0, .ref 67, .int (nI i)] [] (mm L xs σ τ) 85 S = pX 225 1462 [.ref 1002, .ref 0, .ref 67, .int (nI i)] [] (mm L xs σ' τ') 85 S ∧ Rel g' d' σ' τ' := by
  obtain ⟨v, σ1, τ1, σ2, τ2, g', d', h1, h2, h3⟩ := (op_asked : opI L xs S (fun M => pX 84 0 [.ref 0] [] M 85 S) (fun M => pX 212 0 [.ref 67] [] M 85 S)) g d σ τ R
  dsimp only at h1 h2
  refine ⟨σ2, τ2, g', d', ?_, h3⟩
  simp only [iL_law_1348, iL_law_1349, iL_law_1352, iL_law_1353, iL_law_1356, iL_law_1359, iL_law_1360, h1, h2, pK_i, if_true]
theorem lw_c37 {i g d : Nat} {σ : Nat → Nat → Int32} {τ : Nat → Nat → Int64} (hi : i + 6 ≤ L) (hL : L ≤ 3072) (R : Rel g d σ τ) : ∃ σ' τ' g' d', pX 225 1361 [.ref 1002, .ref 0, .ref 67, .int (nI i)] [] (mm L xs σ τ) 85 S = pX 225 1462 [.ref 1002, .ref 0, .ref 67, .int (nI i)] [] (mm L xs σ' τ') 85 S ∧ Rel g' d' σ' τ' := by
  obtain ⟨v, σ1, τ1, σ2, τ2, g', d', h1, h2, h3⟩ := (op_upper : opL L xs S (fun M => pX 85 0 [.ref 0] [] M 85 S) (fun M => pX 213 0 [.ref 67] [] M 85 S)) g d σ τ R
  dsimp only at h1 h2
  have lc : lg_cmp v v = 0 := by unfold lg_cmp; rw [if_neg (fun q => Int64.lt_irrefl q), if_pos rfl]
  refine ⟨σ2, τ2, g', d', ?_, h3⟩
  simp only [iL_law_1361, iL_law_1362, iL_law_1365, iL_law_1366, iL_law_1369, iL_law_1370, iL_law_1373, iL_law_1374, h1, h2, pK_l, lc, if_true]
theorem lw_c38 {i g d : Nat} {σ : Nat → Nat → Int32} {τ : Nat → Nat → Int64} (hi : i + 6 ≤ L) (hL : L ≤ 3072) (R : Rel g d σ τ) : ∃ σ' τ' g' d', pX 225 1375 [.ref 1002, .ref 0, .ref 67, .int (nI i)] [] (mm L xs σ τ) 85 S = pX 225 1462 [.ref 1002, .ref 0, .ref 67, .int (nI i)] [] (mm L xs σ' τ') 85 S ∧ Rel g' d' σ' τ' := by
  obtain ⟨v, σ1, τ1, σ2, τ2, g', d', h1, h2, h3⟩ := (op_lower : opL L xs S (fun M => pX 86 0 [.ref 0] [] M 85 S) (fun M => pX 214 0 [.ref 67] [] M 85 S)) g d σ τ R
  dsimp only at h1 h2
  have lc : lg_cmp v v = 0 := by unfold lg_cmp; rw [if_neg (fun q => Int64.lt_irrefl q), if_pos rfl]
  refine ⟨σ2, τ2, g', d', ?_, h3⟩
  simp only [iL_law_1375, iL_law_1376, iL_law_1379, iL_law_1380, iL_law_1383, iL_law_1384, iL_law_1387, iL_law_1388, h1, h2, pK_l, lc, if_true]
theorem lw_c39 {i g d : Nat} {σ : Nat → Nat → Int32} {τ : Nat → Nat → Int64} (hi : i + 6 ≤ L) (hL : L ≤ 3072) (R : Rel g d σ τ) : ∃ σ' τ' g' d', pX 225 1389 [.ref 1002, .ref 0, .ref 67, .int (nI i)] [] (mm L xs σ τ) 85 S = pX 225 1462 [.ref 1002, .ref 0, .ref 67, .int (nI i)] [] (mm L xs σ' τ') 85 S ∧ Rel g' d' σ' τ' := by
  obtain ⟨v, σ1, τ1, σ2, τ2, g', d', h1, h2, h3⟩ := (op_count : opI L xs S (fun M => pX 87 0 [.ref 0, .int (xs (i + 1))] [] M 85 S) (fun M => pX 219 0 [.ref 67, .int (xs (i + 1))] [] M 85 S)) g d σ τ R
  dsimp only at h1 h2
  have ia1 : inb (nI (i + 1)) L := ib (by omega) (by omega)
  have ic1 : (nI (i + 1)).toNatClampNeg = i + 1 := cl (by omega)
  refine ⟨σ2, τ2, g', d', ?_, h3⟩
  simp only [iL_law_1389, iL_law_1390, iL_law_1391, iL_law_1392, iL_law_1393, iL_law_1394_s, iL_law_1395, iL_law_1398, iL_law_1399, iL_law_1400, iL_law_1401, iL_law_1402, iL_law_1403_s, iL_law_1404, iL_law_1407, iL_law_1410, iL_law_1411, nI_1, ia1, ic1, h1, h2, pK_i, if_true]
theorem lw_c40 {i g d : Nat} {σ : Nat → Nat → Int32} {τ : Nat → Nat → Int64} (hi : i + 6 ≤ L) (hL : L ≤ 3072) (R : Rel g d σ τ) : ∃ σ' τ' g' d', pX 225 1412 [.ref 1002, .ref 0, .ref 67, .int (nI i)] [] (mm L xs σ τ) 85 S = pX 225 1462 [.ref 1002, .ref 0, .ref 67, .int (nI i)] [] (mm L xs σ' τ') 85 S ∧ Rel g' d' σ' τ' := by
  obtain ⟨v, σ1, τ1, σ2, τ2, g', d', h1, h2, h3⟩ := (op_finding : opI L xs S (fun M => pX 88 0 [.ref 0] [] M 85 S) (fun M => pX 220 0 [.ref 67] [] M 85 S)) g d σ τ R
  dsimp only at h1 h2
  refine ⟨σ2, τ2, g', d', ?_, h3⟩
  simp only [iL_law_1412, iL_law_1413, iL_law_1416, iL_law_1417, iL_law_1420, iL_law_1423, iL_law_1424, h1, h2, pK_i, if_true]
theorem lw_c41 {i g d : Nat} {σ : Nat → Nat → Int32} {τ : Nat → Nat → Int64} (hi : i + 6 ≤ L) (hL : L ≤ 3072) (R : Rel g d σ τ) : ∃ σ' τ' g' d', pX 225 1425 [.ref 1002, .ref 0, .ref 67, .int (nI i)] [] (mm L xs σ τ) 85 S = pX 225 1462 [.ref 1002, .ref 0, .ref 67, .int (nI i)] [] (mm L xs σ' τ') 85 S ∧ Rel g' d' σ' τ' := by
  obtain ⟨v, σ1, τ1, σ2, τ2, g', d', h1, h2, h3⟩ := (op_findings : opI L xs S (fun M => pX 89 0 [.ref 0, .int (xs (i + 1))] [] M 85 S) (fun M => pX 221 0 [.ref 67, .int (xs (i + 1))] [] M 85 S)) g d σ τ R
  dsimp only at h1 h2
  have ia1 : inb (nI (i + 1)) L := ib (by omega) (by omega)
  have ic1 : (nI (i + 1)).toNatClampNeg = i + 1 := cl (by omega)
  refine ⟨σ2, τ2, g', d', ?_, h3⟩
  simp only [iL_law_1425, iL_law_1426, iL_law_1427, iL_law_1428, iL_law_1429, iL_law_1430_s, iL_law_1431, iL_law_1434, iL_law_1435, iL_law_1436, iL_law_1437, iL_law_1438, iL_law_1439_s, iL_law_1440, iL_law_1443, iL_law_1446, iL_law_1447, nI_1, ia1, ic1, h1, h2, pK_i, if_true]
theorem lw_c42 {i g d : Nat} {σ : Nat → Nat → Int32} {τ : Nat → Nat → Int64} (hi : i + 6 ≤ L) (hL : L ≤ 3072) (R : Rel g d σ τ) : ∃ σ' τ' g' d', pX 225 1448 [.ref 1002, .ref 0, .ref 67, .int (nI i)] [] (mm L xs σ τ) 85 S = pX 225 1462 [.ref 1002, .ref 0, .ref 67, .int (nI i)] [] (mm L xs σ' τ') 85 S ∧ Rel g' d' σ' τ' := by
  obtain ⟨v, σ1, τ1, σ2, τ2, g', d', h1, h2, h3⟩ := (op_digest : opL L xs S (fun M => pX 90 0 [.ref 0, .null, .null, .null] [] M 85 S) (fun M => pX 223 0 [.ref 67, .null, .null, .null, .null] [] M 85 S)) g d σ τ R
  dsimp only at h1 h2
  have lc : lg_cmp v v = 0 := by unfold lg_cmp; rw [if_neg (fun q => Int64.lt_irrefl q), if_pos rfl]
  refine ⟨σ2, τ2, g', d', ?_, h3⟩
  simp only [iL_law_1448, iL_law_1449, iL_law_1452, iL_law_1453, iL_law_1456, iL_law_1457, iL_law_1460, iL_law_1461, h1, h2, pK_l, lc, if_true]
end LC
