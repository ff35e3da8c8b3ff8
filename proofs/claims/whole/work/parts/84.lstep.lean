section LSTEP
variable {L : Nat} {xs : Nat → Int32} {iv : mI} {jv : mJ} {t i : Nat}
theorem st1 {jt jm : Nat} {as am : List Value} {K : Option Value → mH → Prop} (h : XM 12 jt as iv jv (Q1 12 t jm am)) (k : ∀ r iv1 jv1, XM 12 jm am iv1 jv1 (Q2 t (.int r)) → K (some (.int r)) (mk iv1 jv1)) : XM 12 jt as iv jv K :=
  TM_mono 12 _ _ _ _ _ _ (fun v hp q => by obtain ⟨r, iv1, jv1, rfl, rfl, h⟩ := q; exact k r iv1 jv1 h) h
theorem stJ {jt jm : Nat} {as am : List Value} {K : Option Value → mH → Prop} (h : XM 12 jt as iv jv (QJ 12 t jm am)) (k : ∀ r iv1 jv1, XM 12 jm am iv1 jv1 (Q2 t (.long r)) → K (some (.long r)) (mk iv1 jv1)) : XM 12 jt as iv jv K :=
  TM_mono 12 _ _ _ _ _ _ (fun v hp q => by obtain ⟨r, iv1, jv1, rfl, rfl, h⟩ := q; exact k r iv1 jv1 h) h
theorem st2 {jm : Nat} {am : List Value} {x : Value} {K : Option Value → mH → Prop} (h : XM 12 jm am iv jv (Q2 t x)) (k : ∀ iv2 jv2, INV (t + 1) iv2 jv2 → K (some x) (mk iv2 jv2)) : XM 12 jm am iv jv K :=
  TM_mono 12 _ _ _ _ _ _ (fun v hp q => by obtain ⟨iv2, jv2, rfl, rfl, h⟩ := q; exact k iv2 jv2 h) h
theorem lc_0 (hI : INV t iv jv) (ht : t < 900) (hi : i + 6 ≤ L) (hL : L ≤ 3072) (hn : ∀ iv2 jv2, INV (t + 1) iv2 jv2 → XL L xs 1205 [.ref 1000, .ref 0, .ref 118, .int (nI i)] [] iv2 jv2) : XL L xs 176 [.ref 1000, .ref 0, .ref 118, .int (nI i)] [] iv jv := by
  simp (disch := first | assumption | omega) only [l_176, l_177, l_178, l_179, l_180, l_181, l_182, l_183, l_184, l_185, l_186, l_187, l_190, l_191, l_192, l_193, l_194, l_195, l_196, l_197, l_198, l_199, l_200, l_201, l_204, l_207, l_208, q_add, q_in, q_tn, true_and]
  refine st1 (pr_prior (d := 0) hI _ _) (fun r iv1 jv1 hM => ?_)
  simp (disch := first | assumption | omega) only [KL_s, l_176, l_177, l_178, l_179, l_180, l_181, l_182, l_183, l_184, l_185, l_186, l_187, l_190, l_191, l_192, l_193, l_194, l_195, l_196, l_197, l_198, l_199, l_200, l_201, l_204, l_207, l_208, q_add, q_in, q_tn, true_and]
  refine st2 hM (fun iv2 jv2 hI2 => ?_)
  simp (disch := first | assumption | omega) only [KL_s, l_176, l_177, l_178, l_179, l_180, l_181, l_182, l_183, l_184, l_185, l_186, l_187, l_190, l_191, l_192, l_193, l_194, l_195, l_196, l_197, l_198, l_199, l_200, l_201, l_204, l_207, l_208, if_true]
  exact hn iv2 jv2 hI2
theorem lc_1 (hI : INV t iv jv) (ht : t < 900) (hi : i + 6 ≤ L) (hL : L ≤ 3072) (hn : ∀ iv2 jv2, INV (t + 1) iv2 jv2 → XL L xs 1205 [.ref 1000, .ref 0, .ref 118, .int (nI i)] [] iv2 jv2) : XL L xs 209 [.ref 1000, .ref 0, .ref 118, .int (nI i)] [] iv jv := by
  simp (disch := first | assumption | omega) only [l_209, l_210, l_211, l_212, l_213, l_214, l_215, l_216, l_217, l_218, l_219, l_220, l_221, l_222, l_223, l_224, l_225, l_228, l_229, l_230, l_231, l_232, l_233, l_234, l_235, l_236, l_237, l_238, l_239, l_240, l_241, l_242, l_243, l_244, l_247, l_250, l_251, q_add, q_in, q_tn, true_and]
  refine st1 (pr_quota (d := 0) hI _ _ _) (fun r iv1 jv1 hM => ?_)
  simp (disch := first | assumption | omega) only [KL_s, l_209, l_210, l_211, l_212, l_213, l_214, l_215, l_216, l_217, l_218, l_219, l_220, l_221, l_222, l_223, l_224, l_225, l_228, l_229, l_230, l_231, l_232, l_233, l_234, l_235, l_236, l_237, l_238, l_239, l_240, l_241, l_242, l_243, l_244, l_247, l_250, l_251, q_add, q_in, q_tn, true_and]
  refine st2 hM (fun iv2 jv2 hI2 => ?_)
  simp (disch := first | assumption | omega) only [KL_s, l_209, l_210, l_211, l_212, l_213, l_214, l_215, l_216, l_217, l_218, l_219, l_220, l_221, l_222, l_223, l_224, l_225, l_228, l_229, l_230, l_231, l_232, l_233, l_234, l_235, l_236, l_237, l_238, l_239, l_240, l_241, l_242, l_243, l_244, l_247, l_250, l_251, if_true]
  exact hn iv2 jv2 hI2
theorem lc_2 (hI : INV t iv jv) (ht : t < 900) (hi : i + 6 ≤ L) (hL : L ≤ 3072) (hn : ∀ iv2 jv2, INV (t + 1) iv2 jv2 → XL L xs 1205 [.ref 1000, .ref 0, .ref 118, .int (nI i)] [] iv2 jv2) : XL L xs 252 [.ref 1000, .ref 0, .ref 118, .int (nI i)] [] iv jv := by
  simp (disch := first | assumption | omega) only [l_252, l_253, l_254, l_255, l_256, l_257, l_258, l_259, l_260, l_261, l_262, l_263, l_264, l_265, l_266, l_267, l_268, l_269, l_270, l_271, l_272, l_273, l_276, l_277, l_278, l_279, l_280, l_281, l_282, l_283, l_284, l_285, l_286, l_287, l_288, l_289, l_290, l_291, l_292, l_293, l_294, l_295, l_296, l_297, l_300, l_303, l_304, q_add, q_in, q_tn, true_and]
  refine st1 (pr_item (d := 0) hI _ _ _ _) (fun r iv1 jv1 hM => ?_)
  simp (disch := first | assumption | omega) only [KL_s, l_252, l_253, l_254, l_255, l_256, l_257, l_258, l_259, l_260, l_261, l_262, l_263, l_264, l_265, l_266, l_267, l_268, l_269, l_270, l_271, l_272, l_273, l_276, l_277, l_278, l_279, l_280, l_281, l_282, l_283, l_284, l_285, l_286, l_287, l_288, l_289, l_290, l_291, l_292, l_293, l_294, l_295, l_296, l_297, l_300, l_303, l_304, q_add, q_in, q_tn, true_and]
  refine st2 hM (fun iv2 jv2 hI2 => ?_)
  simp (disch := first | assumption | omega) only [KL_s, l_252, l_253, l_254, l_255, l_256, l_257, l_258, l_259, l_260, l_261, l_262, l_263, l_264, l_265, l_266, l_267, l_268, l_269, l_270, l_271, l_272, l_273, l_276, l_277, l_278, l_279, l_280, l_281, l_282, l_283, l_284, l_285, l_286, l_287, l_288, l_289, l_290, l_291, l_292, l_293, l_294, l_295, l_296, l_297, l_300, l_303, l_304, if_true]
  exact hn iv2 jv2 hI2
theorem lc_3 (hI : INV t iv jv) (ht : t < 900) (hi : i + 6 ≤ L) (hL : L ≤ 3072) (hn : ∀ iv2 jv2, INV (t + 1) iv2 jv2 → XL L xs 1205 [.ref 1000, .ref 0, .ref 118, .int (nI i)] [] iv2 jv2) : XL L xs 305 [.ref 1000, .ref 0, .ref 118, .int (nI i)] [] iv jv := by
  simp (disch := first | assumption | omega) only [l_305, l_306, l_307, l_308, l_309, l_310, l_311, l_312, l_313, l_314, l_315, l_316, l_319, l_320, l_321, l_322, l_323, l_324, l_325, l_326, l_327, l_328, l_329, l_330, l_333, l_336, l_337, q_add, q_in, q_tn, true_and]
  refine st1 (pr_ease (d := 0) hI _ _) (fun r iv1 jv1 hM => ?_)
  simp (disch := first | assumption | omega) only [KL_s, l_305, l_306, l_307, l_308, l_309, l_310, l_311, l_312, l_313, l_314, l_315, l_316, l_319, l_320, l_321, l_322, l_323, l_324, l_325, l_326, l_327, l_328, l_329, l_330, l_333, l_336, l_337, q_add, q_in, q_tn, true_and]
  refine st2 hM (fun iv2 jv2 hI2 => ?_)
  simp (disch := first | assumption | omega) only [KL_s, l_305, l_306, l_307, l_308, l_309, l_310, l_311, l_312, l_313, l_314, l_315, l_316, l_319, l_320, l_321, l_322, l_323, l_324, l_325, l_326, l_327, l_328, l_329, l_330, l_333, l_336, l_337, if_true]
  exact hn iv2 jv2 hI2
theorem lc_4 (hI : INV t iv jv) (ht : t < 900) (hi : i + 6 ≤ L) (hL : L ≤ 3072) (hn : ∀ iv2 jv2, INV (t + 1) iv2 jv2 → XL L xs 1205 [.ref 1000, .ref 0, .ref 118, .int (nI i)] [] iv2 jv2) : XL L xs 338 [.ref 1000, .ref 0, .ref 118, .int (nI i)] [] iv jv := by
  simp (disch := first | assumption | omega) only [l_338, l_339, l_340, l_341, l_342, l_343, l_344, l_345, l_346, l_347, l_348, l_349, l_352, l_353, l_354, l_355, l_356, l_357, l_358, l_359, l_360, l_361, l_362, l_363, l_366, l_369, l_370, q_add, q_in, q_tn, true_and]
  refine st1 (pr_set (d := 0) hI _ _) (fun r iv1 jv1 hM => ?_)
  simp (disch := first | assumption | omega) only [KL_s, l_338, l_339, l_340, l_341, l_342, l_343, l_344, l_345, l_346, l_347, l_348, l_349, l_352, l_353, l_354, l_355, l_356, l_357, l_358, l_359, l_360, l_361, l_362, l_363, l_366, l_369, l_370, q_add, q_in, q_tn, true_and]
  refine st2 hM (fun iv2 jv2 hI2 => ?_)
  simp (disch := first | assumption | omega) only [KL_s, l_338, l_339, l_340, l_341, l_342, l_343, l_344, l_345, l_346, l_347, l_348, l_349, l_352, l_353, l_354, l_355, l_356, l_357, l_358, l_359, l_360, l_361, l_362, l_363, l_366, l_369, l_370, if_true]
  exact hn iv2 jv2 hI2
theorem lc_5 (hI : INV t iv jv) (ht : t < 900) (hi : i + 6 ≤ L) (hL : L ≤ 3072) (hn : ∀ iv2 jv2, INV (t + 1) iv2 jv2 → XL L xs 1205 [.ref 1000, .ref 0, .ref 118, .int (nI i)] [] iv2 jv2) : XL L xs 371 [.ref 1000, .ref 0, .ref 118, .int (nI i)] [] iv jv := by
  simp (disch := first | assumption | omega) only [l_371, l_372, l_373, l_374, l_375, l_376, l_377, l_380, l_381, l_382, l_383, l_384, l_385, l_386, l_389, l_392, l_393, q_add, q_in, q_tn, true_and]
  refine st1 (pr_rules (d := 0) hI _) (fun r iv1 jv1 hM => ?_)
  simp (disch := first | assumption | omega) only [KL_s, l_371, l_372, l_373, l_374, l_375, l_376, l_377, l_380, l_381, l_382, l_383, l_384, l_385, l_386, l_389, l_392, l_393, q_add, q_in, q_tn, true_and]
  refine st2 hM (fun iv2 jv2 hI2 => ?_)
  simp (disch := first | assumption | omega) only [KL_s, l_371, l_372, l_373, l_374, l_375, l_376, l_377, l_380, l_381, l_382, l_383, l_384, l_385, l_386, l_389, l_392, l_393, if_true]
  exact hn iv2 jv2 hI2
theorem lc_6 (hI : INV t iv jv) (ht : t < 900) (hi : i + 6 ≤ L) (hL : L ≤ 3072) (hn : ∀ iv2 jv2, INV (t + 1) iv2 jv2 → XL L xs 1205 [.ref 1000, .ref 0, .ref 118, .int (nI i)] [] iv2 jv2) : XL L xs 394 [.ref 1000, .ref 0, .ref 118, .int (nI i)] [] iv jv := by
  simp (disch := first | assumption | omega) only [l_394, l_395, l_396, l_397, l_398, l_399, l_400, l_401, l_402, l_403, l_404, l_405, l_408, l_409, l_410, l_411, l_412, l_413, l_414, l_415, l_416, l_417, l_418, l_419, l_422, l_425, l_426, q_add, q_in, q_tn, true_and]
  refine st1 (pr_told (d := 0) hI _ _) (fun r iv1 jv1 hM => ?_)
  simp (disch := first | assumption | omega) only [KL_s, l_394, l_395, l_396, l_397, l_398, l_399, l_400, l_401, l_402, l_403, l_404, l_405, l_408, l_409, l_410, l_411, l_412, l_413, l_414, l_415, l_416, l_417, l_418, l_419, l_422, l_425, l_426, q_add, q_in, q_tn, true_and]
  refine st2 hM (fun iv2 jv2 hI2 => ?_)
  simp (disch := first | assumption | omega) only [KL_s, l_394, l_395, l_396, l_397, l_398, l_399, l_400, l_401, l_402, l_403, l_404, l_405, l_408, l_409, l_410, l_411, l_412, l_413, l_414, l_415, l_416, l_417, l_418, l_419, l_422, l_425, l_426, if_true]
  exact hn iv2 jv2 hI2
theorem lc_7 (hI : INV t iv jv) (ht : t < 900) (hi : i + 6 ≤ L) (hL : L ≤ 3072) (hn : ∀ iv2 jv2, INV (t + 1) iv2 jv2 → XL L xs 1205 [.ref 1000, .ref 0, .ref 118, .int (nI i)] [] iv2 jv2) : XL L xs 427 [.ref 1000, .ref 0, .ref 118, .int (nI i)] [] iv jv := by
  simp (disch := first | assumption | omega) only [l_427, l_428, l_429, l_430, l_431, l_432, l_433, l_434, l_435, l_436, l_437, l_438, l_439, l_440, l_441, l_442, l_443, l_446, l_447, l_448, l_449, l_450, l_451, l_452, l_453, l_454, l_455, l_456, l_457, l_458, l_459, l_460, l_461, l_462, l_465, l_468, l_469, q_add, q_in, q_tn, true_and]
  refine st1 (pr_by (d := 0) hI _ _ _) (fun r iv1 jv1 hM => ?_)
  simp (disch := first | assumption | omega) only [KL_s, l_427, l_428, l_429, l_430, l_431, l_432, l_433, l_434, l_435, l_436, l_437, l_438, l_439, l_440, l_441, l_442, l_443, l_446, l_447, l_448, l_449, l_450, l_451, l_452, l_453, l_454, l_455, l_456, l_457, l_458, l_459, l_460, l_461, l_462, l_465, l_468, l_469, q_add, q_in, q_tn, true_and]
  refine st2 hM (fun iv2 jv2 hI2 => ?_)
  simp (disch := first | assumption | omega) only [KL_s, l_427, l_428, l_429, l_430, l_431, l_432, l_433, l_434, l_435, l_436, l_437, l_438, l_439, l_440, l_441, l_442, l_443, l_446, l_447, l_448, l_449, l_450, l_451, l_452, l_453, l_454, l_455, l_456, l_457, l_458, l_459, l_460, l_461, l_462, l_465, l_468, l_469, if_true]
  exact hn iv2 jv2 hI2
theorem lc_8 (hI : INV t iv jv) (ht : t < 900) (hi : i + 6 ≤ L) (hL : L ≤ 3072) (hn : ∀ iv2 jv2, INV (t + 1) iv2 jv2 → XL L xs 1205 [.ref 1000, .ref 0, .ref 118, .int (nI i)] [] iv2 jv2) : XL L xs 470 [.ref 1000, .ref 0, .ref 118, .int (nI i)] [] iv jv := by
  simp (disch := first | assumption | omega) only [l_470, l_471, l_472, l_473, l_474, l_475, l_476, l_477, l_478, l_479, l_480, l_481, l_484, l_485, l_486, l_487, l_488, l_489, l_490, l_491, l_492, l_493, l_494, l_495, l_498, l_501, l_502, q_add, q_in, q_tn, true_and]
  refine st1 (pr_taken (d := 0) hI _ _) (fun r iv1 jv1 hM => ?_)
  simp (disch := first | assumption | omega) only [KL_s, l_470, l_471, l_472, l_473, l_474, l_475, l_476, l_477, l_478, l_479, l_480, l_481, l_484, l_485, l_486, l_487, l_488, l_489, l_490, l_491, l_492, l_493, l_494, l_495, l_498, l_501, l_502, q_add, q_in, q_tn, true_and]
  refine st2 hM (fun iv2 jv2 hI2 => ?_)
  simp (disch := first | assumption | omega) only [KL_s, l_470, l_471, l_472, l_473, l_474, l_475, l_476, l_477, l_478, l_479, l_480, l_481, l_484, l_485, l_486, l_487, l_488, l_489, l_490, l_491, l_492, l_493, l_494, l_495, l_498, l_501, l_502, if_true]
  exact hn iv2 jv2 hI2
theorem lc_9 (hI : INV t iv jv) (ht : t < 900) (hi : i + 6 ≤ L) (hL : L ≤ 3072) (hn : ∀ iv2 jv2, INV (t + 1) iv2 jv2 → XL L xs 1205 [.ref 1000, .ref 0, .ref 118, .int (nI i)] [] iv2 jv2) : XL L xs 503 [.ref 1000, .ref 0, .ref 118, .int (nI i)] [] iv jv := by
  simp (disch := first | assumption | omega) only [l_503, l_504, l_505, l_506, l_507, l_508, l_509, l_512, l_513, l_514, l_515, l_516, l_517, l_518, l_521, l_524, l_525, q_add, q_in, q_tn, true_and]
  refine st1 (pr_begin (d := 0) hI ht _) (fun r iv1 jv1 hM => ?_)
  simp (disch := first | assumption | omega) only [KL_s, l_503, l_504, l_505, l_506, l_507, l_508, l_509, l_512, l_513, l_514, l_515, l_516, l_517, l_518, l_521, l_524, l_525, q_add, q_in, q_tn, true_and]
  refine st2 hM (fun iv2 jv2 hI2 => ?_)
  simp (disch := first | assumption | omega) only [KL_s, l_503, l_504, l_505, l_506, l_507, l_508, l_509, l_512, l_513, l_514, l_515, l_516, l_517, l_518, l_521, l_524, l_525, if_true]
  exact hn iv2 jv2 hI2
theorem lc_10 (hI : INV t iv jv) (ht : t < 900) (hi : i + 6 ≤ L) (hL : L ≤ 3072) (hn : ∀ iv2 jv2, INV (t + 1) iv2 jv2 → XL L xs 1205 [.ref 1000, .ref 0, .ref 118, .int (nI i)] [] iv2 jv2) : XL L xs 526 [.ref 1000, .ref 0, .ref 118, .int (nI i)] [] iv jv := by
  simp (disch := first | assumption | omega) only [l_526, l_527, l_528, l_529, l_530, l_531, l_532, l_533, l_534, l_535, l_536, l_537, l_540, l_541, l_542, l_543, l_544, l_545, l_546, l_547, l_548, l_549, l_550, l_551, l_554, l_557, l_558, q_add, q_in, q_tn, true_and]
  refine st1 (pr_answer (d := 0) hI ht _ _) (fun r iv1 jv1 hM => ?_)
  simp (disch := first | assumption | omega) only [KL_s, l_526, l_527, l_528, l_529, l_530, l_531, l_532, l_533, l_534, l_535, l_536, l_537, l_540, l_541, l_542, l_543, l_544, l_545, l_546, l_547, l_548, l_549, l_550, l_551, l_554, l_557, l_558, q_add, q_in, q_tn, true_and]
  refine st2 hM (fun iv2 jv2 hI2 => ?_)
  simp (disch := first | assumption | omega) only [KL_s, l_526, l_527, l_528, l_529, l_530, l_531, l_532, l_533, l_534, l_535, l_536, l_537, l_540, l_541, l_542, l_543, l_544, l_545, l_546, l_547, l_548, l_549, l_550, l_551, l_554, l_557, l_558, if_true]
  exact hn iv2 jv2 hI2
theorem lc_11 (hI : INV t iv jv) (ht : t < 900) (hi : i + 6 ≤ L) (hL : L ≤ 3072) (hn : ∀ iv2 jv2, INV (t + 1) iv2 jv2 → XL L xs 1205 [.ref 1000, .ref 0, .ref 118, .int (nI i)] [] iv2 jv2) : XL L xs 559 [.ref 1000, .ref 0, .ref 118, .int (nI i)] [] iv jv := by
  simp (disch := first | assumption | omega) only [l_559, l_560, l_563, l_564, l_567, l_570, l_571, q_add, q_in, q_tn, true_and]
  refine st1 (pr_end (d := 0) hI) (fun r iv1 jv1 hM => ?_)
  simp (disch := first | assumption | omega) only [KL_s, l_559, l_560, l_563, l_564, l_567, l_570, l_571, q_add, q_in, q_tn, true_and]
  refine st2 hM (fun iv2 jv2 hI2 => ?_)
  simp (disch := first | assumption | omega) only [KL_s, l_559, l_560, l_563, l_564, l_567, l_570, l_571, if_true]
  exact hn iv2 jv2 hI2
theorem lc_12 (hI : INV t iv jv) (ht : t < 900) (hi : i + 6 ≤ L) (hL : L ≤ 3072) (hn : ∀ iv2 jv2, INV (t + 1) iv2 jv2 → XL L xs 1205 [.ref 1000, .ref 0, .ref 118, .int (nI i)] [] iv2 jv2) : XL L xs 572 [.ref 1000, .ref 0, .ref 118, .int (nI i)] [] iv jv := by
  simp (disch := first | assumption | omega) only [l_572, l_573, l_574, l_575, l_576, l_577, l_578, l_579, l_580, l_581, l_582, l_583, l_586, l_587, l_588, l_589, l_590, l_591, l_592, l_593, l_594, l_595, l_596, l_597, l_600, l_603, l_604, q_add, q_in, q_tn, true_and]
  refine st1 (pr_answered (d := 0) hI _ _) (fun r iv1 jv1 hM => ?_)
  simp (disch := first | assumption | omega) only [KL_s, l_572, l_573, l_574, l_575, l_576, l_577, l_578, l_579, l_580, l_581, l_582, l_583, l_586, l_587, l_588, l_589, l_590, l_591, l_592, l_593, l_594, l_595, l_596, l_597, l_600, l_603, l_604, q_add, q_in, q_tn, true_and]
  refine st2 hM (fun iv2 jv2 hI2 => ?_)
  simp (disch := first | assumption | omega) only [KL_s, l_572, l_573, l_574, l_575, l_576, l_577, l_578, l_579, l_580, l_581, l_582, l_583, l_586, l_587, l_588, l_589, l_590, l_591, l_592, l_593, l_594, l_595, l_596, l_597, l_600, l_603, l_604, if_true]
  exact hn iv2 jv2 hI2
theorem lc_13 (hI : INV t iv jv) (ht : t < 900) (hi : i + 6 ≤ L) (hL : L ≤ 3072) (hn : ∀ iv2 jv2, INV (t + 1) iv2 jv2 → XL L xs 1205 [.ref 1000, .ref 0, .ref 118, .int (nI i)] [] iv2 jv2) : XL L xs 605 [.ref 1000, .ref 0, .ref 118, .int (nI i)] [] iv jv := by
  simp (disch := first | assumption | omega) only [l_605, l_606, l_607, l_608, l_609, l_610, l_611, l_614, l_615, l_616, l_617, l_618, l_619, l_620, l_623, l_624, l_627, l_628, q_add, q_in, q_tn, true_and]
  refine stJ (pr_weight (d := 0) hI _) (fun r iv1 jv1 hM => ?_)
  simp (disch := first | assumption | omega) only [KL_s, l_605, l_606, l_607, l_608, l_609, l_610, l_611, l_614, l_615, l_616, l_617, l_618, l_619, l_620, l_623, l_624, l_627, l_628, q_add, q_in, q_tn, true_and]
  refine st2 hM (fun iv2 jv2 hI2 => ?_)
  simp (disch := first | assumption | omega) only [KL_s, l_605, l_606, l_607, l_608, l_609, l_610, l_611, l_614, l_615, l_616, l_617, l_618, l_619, l_620, l_623, l_624, l_627, l_628, c_eq, if_true]
  exact hn iv2 jv2 hI2
theorem lc_14 (hI : INV t iv jv) (ht : t < 900) (hi : i + 6 ≤ L) (hL : L ≤ 3072) (hn : ∀ iv2 jv2, INV (t + 1) iv2 jv2 → XL L xs 1205 [.ref 1000, .ref 0, .ref 118, .int (nI i)] [] iv2 jv2) : XL L xs 629 [.ref 1000, .ref 0, .ref 118, .int (nI i)] [] iv jv := by
  simp (disch := first | assumption | omega) only [l_629, l_630, l_631, l_632, l_633, l_634, l_635, l_636, l_637, l_638, l_639, l_640, l_643, l_644, l_645, l_646, l_647, l_648, l_649, l_650, l_651, l_652, l_653, l_654, l_657, l_658, l_661, l_662, q_add, q_in, q_tn, true_and]
  refine stJ (pr_now (d := 0) hI _ _) (fun r iv1 jv1 hM => ?_)
  simp (disch := first | assumption | omega) only [KL_s, l_629, l_630, l_631, l_632, l_633, l_634, l_635, l_636, l_637, l_638, l_639, l_640, l_643, l_644, l_645, l_646, l_647, l_648, l_649, l_650, l_651, l_652, l_653, l_654, l_657, l_658, l_661, l_662, q_add, q_in, q_tn, true_and]
  refine st2 hM (fun iv2 jv2 hI2 => ?_)
  simp (disch := first | assumption | omega) only [KL_s, l_629, l_630, l_631, l_632, l_633, l_634, l_635, l_636, l_637, l_638, l_639, l_640, l_643, l_644, l_645, l_646, l_647, l_648, l_649, l_650, l_651, l_652, l_653, l_654, l_657, l_658, l_661, l_662, c_eq, if_true]
  exact hn iv2 jv2 hI2
theorem lc_15 (hI : INV t iv jv) (ht : t < 900) (hi : i + 6 ≤ L) (hL : L ≤ 3072) (hn : ∀ iv2 jv2, INV (t + 1) iv2 jv2 → XL L xs 1205 [.ref 1000, .ref 0, .ref 118, .int (nI i)] [] iv2 jv2) : XL L xs 663 [.ref 1000, .ref 0, .ref 118, .int (nI i)] [] iv jv := by
  simp (disch := first | assumption | omega) only [l_663, l_664, l_667, l_668, l_671, l_674, l_675, q_add, q_in, q_tn, true_and]
  refine st1 (pr_mode (d := 0) hI) (fun r iv1 jv1 hM => ?_)
  simp (disch := first | assumption | omega) only [KL_s, l_663, l_664, l_667, l_668, l_671, l_674, l_675, q_add, q_in, q_tn, true_and]
  refine st2 hM (fun iv2 jv2 hI2 => ?_)
  simp (disch := first | assumption | omega) only [KL_s, l_663, l_664, l_667, l_668, l_671, l_674, l_675, if_true]
  exact hn iv2 jv2 hI2
theorem lc_16 (hI : INV t iv jv) (ht : t < 900) (hi : i + 6 ≤ L) (hL : L ≤ 3072) (hn : ∀ iv2 jv2, INV (t + 1) iv2 jv2 → XL L xs 1205 [.ref 1000, .ref 0, .ref 118, .int (nI i)] [] iv2 jv2) : XL L xs 676 [.ref 1000, .ref 0, .ref 118, .int (nI i)] [] iv jv := by
  simp (disch := first | assumption | omega) only [l_676, l_677, l_678, l_679, l_680, l_681, l_682, l_683, l_684, l_685, l_686, l_687, l_688, l_689, l_690, l_691, l_692, l_695, l_696, l_697, l_698, l_699, l_700, l_701, l_702, l_703, l_704, l_705, l_706, l_707, l_708, l_709, l_710, l_711, l_714, l_715, l_718, l_719, q_add, q_in, q_tn, true_and]
  refine stJ (pr_would (d := 0) hI _ _ _) (fun r iv1 jv1 hM => ?_)
  simp (disch := first | assumption | omega) only [KL_s, l_676, l_677, l_678, l_679, l_680, l_681, l_682, l_683, l_684, l_685, l_686, l_687, l_688, l_689, l_690, l_691, l_692, l_695, l_696, l_697, l_698, l_699, l_700, l_701, l_702, l_703, l_704, l_705, l_706, l_707, l_708, l_709, l_710, l_711, l_714, l_715, l_718, l_719, q_add, q_in, q_tn, true_and]
  refine st2 hM (fun iv2 jv2 hI2 => ?_)
  simp (disch := first | assumption | omega) only [KL_s, l_676, l_677, l_678, l_679, l_680, l_681, l_682, l_683, l_684, l_685, l_686, l_687, l_688, l_689, l_690, l_691, l_692, l_695, l_696, l_697, l_698, l_699, l_700, l_701, l_702, l_703, l_704, l_705, l_706, l_707, l_708, l_709, l_710, l_711, l_714, l_715, l_718, l_719, c_eq, if_true]
  exact hn iv2 jv2 hI2
theorem lc_17 (hI : INV t iv jv) (ht : t < 900) (hi : i + 6 ≤ L) (hL : L ≤ 3072) (hn : ∀ iv2 jv2, INV (t + 1) iv2 jv2 → XL L xs 1205 [.ref 1000, .ref 0, .ref 118, .int (nI i)] [] iv2 jv2) : XL L xs 720 [.ref 1000, .ref 0, .ref 118, .int (nI i)] [] iv jv := by
  simp (disch := first | assumption | omega) only [l_720, l_721, l_724, l_725, l_728, l_731, l_732, q_add, q_in, q_tn, true_and]
  refine st1 (pr_shadow (d := 0) hI) (fun r iv1 jv1 hM => ?_)
  simp (disch := first | assumption | omega) only [KL_s, l_720, l_721, l_724, l_725, l_728, l_731, l_732, q_add, q_in, q_tn, true_and]
  refine st2 hM (fun iv2 jv2 hI2 => ?_)
  simp (disch := first | assumption | omega) only [KL_s, l_720, l_721, l_724, l_725, l_728, l_731, l_732, if_true]
  exact hn iv2 jv2 hI2
theorem lc_18 (hI : INV t iv jv) (ht : t < 900) (hi : i + 6 ≤ L) (hL : L ≤ 3072) (hn : ∀ iv2 jv2, INV (t + 1) iv2 jv2 → XL L xs 1205 [.ref 1000, .ref 0, .ref 118, .int (nI i)] [] iv2 jv2) : XL L xs 733 [.ref 1000, .ref 0, .ref 118, .int (nI i)] [] iv jv := by
  simp (disch := first | assumption | omega) only [l_733, l_734, l_737, l_738, l_741, l_744, l_745, q_add, q_in, q_tn, true_and]
  refine st1 (pr_next (d := 0) hI) (fun r iv1 jv1 hM => ?_)
  simp (disch := first | assumption | omega) only [KL_s, l_733, l_734, l_737, l_738, l_741, l_744, l_745, q_add, q_in, q_tn, true_and]
  refine st2 hM (fun iv2 jv2 hI2 => ?_)
  simp (disch := first | assumption | omega) only [KL_s, l_733, l_734, l_737, l_738, l_741, l_744, l_745, if_true]
  exact hn iv2 jv2 hI2
theorem lc_19 (hI : INV t iv jv) (ht : t < 900) (hi : i + 6 ≤ L) (hL : L ≤ 3072) (hn : ∀ iv2 jv2, INV (t + 1) iv2 jv2 → XL L xs 1205 [.ref 1000, .ref 0, .ref 118, .int (nI i)] [] iv2 jv2) : XL L xs 746 [.ref 1000, .ref 0, .ref 118, .int (nI i)] [] iv jv := by
  simp (disch := first | assumption | omega) only [l_746, l_747, l_750, l_751, l_754, l_757, l_758, q_add, q_in, q_tn, true_and]
  refine st1 (pr_stops (d := 0) hI) (fun r iv1 jv1 hM => ?_)
  simp (disch := first | assumption | omega) only [KL_s, l_746, l_747, l_750, l_751, l_754, l_757, l_758, q_add, q_in, q_tn, true_and]
  refine st2 hM (fun iv2 jv2 hI2 => ?_)
  simp (disch := first | assumption | omega) only [KL_s, l_746, l_747, l_750, l_751, l_754, l_757, l_758, if_true]
  exact hn iv2 jv2 hI2
theorem lc_20 (hI : INV t iv jv) (ht : t < 900) (hi : i + 6 ≤ L) (hL : L ≤ 3072) (hn : ∀ iv2 jv2, INV (t + 1) iv2 jv2 → XL L xs 1205 [.ref 1000, .ref 0, .ref 118, .int (nI i)] [] iv2 jv2) : XL L xs 759 [.ref 1000, .ref 0, .ref 118, .int (nI i)] [] iv jv := by
  simp (disch := first | assumption | omega) only [l_759, l_760, l_761, l_762, l_763, l_764, l_765, l_768, l_769, l_770, l_771, l_772, l_773, l_774, l_777, l_780, l_781, q_add, q_in, q_tn, true_and]
  refine st1 (pr_says (d := 0) hI _) (fun r iv1 jv1 hM => ?_)
  simp (disch := first | assumption | omega) only [KL_s, l_759, l_760, l_761, l_762, l_763, l_764, l_765, l_768, l_769, l_770, l_771, l_772, l_773, l_774, l_777, l_780, l_781, q_add, q_in, q_tn, true_and]
  refine st2 hM (fun iv2 jv2 hI2 => ?_)
  simp (disch := first | assumption | omega) only [KL_s, l_759, l_760, l_761, l_762, l_763, l_764, l_765, l_768, l_769, l_770, l_771, l_772, l_773, l_774, l_777, l_780, l_781, if_true]
  exact hn iv2 jv2 hI2
theorem lc_21 (hI : INV t iv jv) (ht : t < 900) (hi : i + 6 ≤ L) (hL : L ≤ 3072) (hn : ∀ iv2 jv2, INV (t + 1) iv2 jv2 → XL L xs 1205 [.ref 1000, .ref 0, .ref 118, .int (nI i)] [] iv2 jv2) : XL L xs 782 [.ref 1000, .ref 0, .ref 118, .int (nI i)] [] iv jv := by
  simp (disch := first | assumption | omega) only [l_782, l_783, l_784, l_785, l_786, l_787, l_788, l_789, l_790, l_791, l_792, l_793, l_794, l_795, l_796, l_797, l_798, l_801, l_802, l_803, l_804, l_805, l_806, l_807, l_808, l_809, l_810, l_811, l_812, l_813, l_814, l_815, l_816, l_817, l_820, l_823, l_824, q_add, q_in, q_tn, true_and]
  refine st1 (pr_drawn (d := 0) hI ht _ _ _) (fun r iv1 jv1 hM => ?_)
  simp (disch := first | assumption | omega) only [KL_s, l_782, l_783, l_784, l_785, l_786, l_787, l_788, l_789, l_790, l_791, l_792, l_793, l_794, l_795, l_796, l_797, l_798, l_801, l_802, l_803, l_804, l_805, l_806, l_807, l_808, l_809, l_810, l_811, l_812, l_813, l_814, l_815, l_816, l_817, l_820, l_823, l_824, q_add, q_in, q_tn, true_and]
  refine st2 hM (fun iv2 jv2 hI2 => ?_)
  simp (disch := first | assumption | omega) only [KL_s, l_782, l_783, l_784, l_785, l_786, l_787, l_788, l_789, l_790, l_791, l_792, l_793, l_794, l_795, l_796, l_797, l_798, l_801, l_802, l_803, l_804, l_805, l_806, l_807, l_808, l_809, l_810, l_811, l_812, l_813, l_814, l_815, l_816, l_817, l_820, l_823, l_824, if_true]
  exact hn iv2 jv2 hI2
theorem lc_22 (hI : INV t iv jv) (ht : t < 900) (hi : i + 6 ≤ L) (hL : L ≤ 3072) (hn : ∀ iv2 jv2, INV (t + 1) iv2 jv2 → XL L xs 1205 [.ref 1000, .ref 0, .ref 118, .int (nI i)] [] iv2 jv2) : XL L xs 825 [.ref 1000, .ref 0, .ref 118, .int (nI i)] [] iv jv := by
  simp (disch := first | assumption | omega) only [l_825, l_826, l_827, l_828, l_829, l_830, l_831, l_832, l_833, l_834, l_835, l_836, l_837, l_838, l_839, l_840, l_841, l_842, l_843, l_844, l_845, l_846, l_849, l_850, l_851, l_852, l_853, l_854, l_855, l_856, l_857, l_858, l_859, l_860, l_861, l_862, l_863, l_864, l_865, l_866, l_867, l_868, l_869, l_870, l_873, l_876, l_877, q_add, q_in, q_tn, true_and]
  refine st1 (pr_chance (d := 0) hI ht _ _ _ _) (fun r iv1 jv1 hM => ?_)
  simp (disch := first | assumption | omega) only [KL_s, l_825, l_826, l_827, l_828, l_829, l_830, l_831, l_832, l_833, l_834, l_835, l_836, l_837, l_838, l_839, l_840, l_841, l_842, l_843, l_844, l_845, l_846, l_849, l_850, l_851, l_852, l_853, l_854, l_855, l_856, l_857, l_858, l_859, l_860, l_861, l_862, l_863, l_864, l_865, l_866, l_867, l_868, l_869, l_870, l_873, l_876, l_877, q_add, q_in, q_tn, true_and]
  refine st2 hM (fun iv2 jv2 hI2 => ?_)
  simp (disch := first | assumption | omega) only [KL_s, l_825, l_826, l_827, l_828, l_829, l_830, l_831, l_832, l_833, l_834, l_835, l_836, l_837, l_838, l_839, l_840, l_841, l_842, l_843, l_844, l_845, l_846, l_849, l_850, l_851, l_852, l_853, l_854, l_855, l_856, l_857, l_858, l_859, l_860, l_861, l_862, l_863, l_864, l_865, l_866, l_867, l_868, l_869, l_870, l_873, l_876, l_877, if_true]
  exact hn iv2 jv2 hI2
theorem lc_23 (hI : INV t iv jv) (ht : t < 900) (hi : i + 6 ≤ L) (hL : L ≤ 3072) (hn : ∀ iv2 jv2, INV (t + 1) iv2 jv2 → XL L xs 1205 [.ref 1000, .ref 0, .ref 118, .int (nI i)] [] iv2 jv2) : XL L xs 878 [.ref 1000, .ref 0, .ref 118, .int (nI i)] [] iv jv := by
  simp (disch := first | assumption | omega) only [l_878, l_879, l_880, l_881, l_882, l_883, l_884, l_885, l_886, l_887, l_888, l_889, l_890, l_891, l_892, l_893, l_894, l_897, l_898, l_899, l_900, l_901, l_902, l_903, l_904, l_905, l_906, l_907, l_908, l_909, l_910, l_911, l_912, l_913, l_916, l_919, l_920, q_add, q_in, q_tn, true_and]
  refine st1 (pr_tells (d := 0) hI _ _ _) (fun r iv1 jv1 hM => ?_)
  simp (disch := first | assumption | omega) only [KL_s, l_878, l_879, l_880, l_881, l_882, l_883, l_884, l_885, l_886, l_887, l_888, l_889, l_890, l_891, l_892, l_893, l_894, l_897, l_898, l_899, l_900, l_901, l_902, l_903, l_904, l_905, l_906, l_907, l_908, l_909, l_910, l_911, l_912, l_913, l_916, l_919, l_920, q_add, q_in, q_tn, true_and]
  refine st2 hM (fun iv2 jv2 hI2 => ?_)
  simp (disch := first | assumption | omega) only [KL_s, l_878, l_879, l_880, l_881, l_882, l_883, l_884, l_885, l_886, l_887, l_888, l_889, l_890, l_891, l_892, l_893, l_894, l_897, l_898, l_899, l_900, l_901, l_902, l_903, l_904, l_905, l_906, l_907, l_908, l_909, l_910, l_911, l_912, l_913, l_916, l_919, l_920, if_true]
  exact hn iv2 jv2 hI2
theorem lc_24 (hI : INV t iv jv) (ht : t < 900) (hi : i + 6 ≤ L) (hL : L ≤ 3072) (hn : ∀ iv2 jv2, INV (t + 1) iv2 jv2 → XL L xs 1205 [.ref 1000, .ref 0, .ref 118, .int (nI i)] [] iv2 jv2) : XL L xs 921 [.ref 1000, .ref 0, .ref 118, .int (nI i)] [] iv jv := by
  simp (disch := first | assumption | omega) only [l_921, l_922, l_923, l_924, l_925, l_926, l_927, l_928, l_929, l_930, l_931, l_932, l_935, l_936, l_937, l_938, l_939, l_940, l_941, l_942, l_943, l_944, l_945, l_946, l_949, l_952, l_953, q_add, q_in, q_tn, true_and]
  refine st1 (pr_film (d := 0) hI _ _) (fun r iv1 jv1 hM => ?_)
  simp (disch := first | assumption | omega) only [KL_s, l_921, l_922, l_923, l_924, l_925, l_926, l_927, l_928, l_929, l_930, l_931, l_932, l_935, l_936, l_937, l_938, l_939, l_940, l_941, l_942, l_943, l_944, l_945, l_946, l_949, l_952, l_953, q_add, q_in, q_tn, true_and]
  refine st2 hM (fun iv2 jv2 hI2 => ?_)
  simp (disch := first | assumption | omega) only [KL_s, l_921, l_922, l_923, l_924, l_925, l_926, l_927, l_928, l_929, l_930, l_931, l_932, l_935, l_936, l_937, l_938, l_939, l_940, l_941, l_942, l_943, l_944, l_945, l_946, l_949, l_952, l_953, if_true]
  exact hn iv2 jv2 hI2
theorem lc_25 (hI : INV t iv jv) (ht : t < 900) (hi : i + 6 ≤ L) (hL : L ≤ 3072) (hn : ∀ iv2 jv2, INV (t + 1) iv2 jv2 → XL L xs 1205 [.ref 1000, .ref 0, .ref 118, .int (nI i)] [] iv2 jv2) : XL L xs 954 [.ref 1000, .ref 0, .ref 118, .int (nI i)] [] iv jv := by
  simp (disch := first | assumption | omega) only [l_954, l_955, l_958, l_959, l_962, l_965, l_966, q_add, q_in, q_tn, true_and]
  refine st1 (pr_image (d := 0) hI) (fun r iv1 jv1 hM => ?_)
  simp (disch := first | assumption | omega) only [KL_s, l_954, l_955, l_958, l_959, l_962, l_965, l_966, q_add, q_in, q_tn, true_and]
  refine st2 hM (fun iv2 jv2 hI2 => ?_)
  simp (disch := first | assumption | omega) only [KL_s, l_954, l_955, l_958, l_959, l_962, l_965, l_966, if_true]
  exact hn iv2 jv2 hI2
theorem lc_26 (hI : INV t iv jv) (ht : t < 900) (hi : i + 6 ≤ L) (hL : L ≤ 3072) (hn : ∀ iv2 jv2, INV (t + 1) iv2 jv2 → XL L xs 1205 [.ref 1000, .ref 0, .ref 118, .int (nI i)] [] iv2 jv2) : XL L xs 967 [.ref 1000, .ref 0, .ref 118, .int (nI i)] [] iv jv := by
  simp (disch := first | assumption | omega) only [l_967, l_968, l_971, l_972, l_975, l_978, l_979, q_add, q_in, q_tn, true_and]
  refine st1 (pr_back (d := 0) hI) (fun r iv1 jv1 hM => ?_)
  simp (disch := first | assumption | omega) only [KL_s, l_967, l_968, l_971, l_972, l_975, l_978, l_979, q_add, q_in, q_tn, true_and]
  refine st2 hM (fun iv2 jv2 hI2 => ?_)
  simp (disch := first | assumption | omega) only [KL_s, l_967, l_968, l_971, l_972, l_975, l_978, l_979, if_true]
  exact hn iv2 jv2 hI2
theorem lc_27 (hI : INV t iv jv) (ht : t < 900) (hi : i + 6 ≤ L) (hL : L ≤ 3072) (hn : ∀ iv2 jv2, INV (t + 1) iv2 jv2 → XL L xs 1205 [.ref 1000, .ref 0, .ref 118, .int (nI i)] [] iv2 jv2) : XL L xs 980 [.ref 1000, .ref 0, .ref 118, .int (nI i)] [] iv jv := by
  simp (disch := first | assumption | omega) only [l_980, l_981, l_982, l_983, l_984, l_985, l_986, l_989, l_990, l_991, l_992, l_993, l_994, l_995, l_998, l_1001, l_1002, q_add, q_in, q_tn, true_and]
  refine st1 (pr_count (d := 0) hI _) (fun r iv1 jv1 hM => ?_)
  simp (disch := first | assumption | omega) only [KL_s, l_980, l_981, l_982, l_983, l_984, l_985, l_986, l_989, l_990, l_991, l_992, l_993, l_994, l_995, l_998, l_1001, l_1002, q_add, q_in, q_tn, true_and]
  refine st2 hM (fun iv2 jv2 hI2 => ?_)
  simp (disch := first | assumption | omega) only [KL_s, l_980, l_981, l_982, l_983, l_984, l_985, l_986, l_989, l_990, l_991, l_992, l_993, l_994, l_995, l_998, l_1001, l_1002, if_true]
  exact hn iv2 jv2 hI2
theorem lc_28 (hI : INV t iv jv) (ht : t < 900) (hi : i + 6 ≤ L) (hL : L ≤ 3072) (hn : ∀ iv2 jv2, INV (t + 1) iv2 jv2 → XL L xs 1205 [.ref 1000, .ref 0, .ref 118, .int (nI i)] [] iv2 jv2) : XL L xs 1003 [.ref 1000, .ref 0, .ref 118, .int (nI i)] [] iv jv := by
  simp (disch := first | assumption | omega) only [l_1003, l_1004, l_1005, l_1006, l_1007, l_1008, l_1009, l_1010, l_1011, l_1012, l_1013, l_1014, l_1015, l_1016, l_1017, l_1018, l_1019, l_1022, l_1023, l_1024, l_1025, l_1026, l_1027, l_1028, l_1029, l_1030, l_1031, l_1032, l_1033, l_1034, l_1035, l_1036, l_1037, l_1038, l_1041, l_1044, l_1045, q_add, q_in, q_tn, true_and]
  refine st1 (pr_sheet (d := 0) hI _ _ _) (fun r iv1 jv1 hM => ?_)
  simp (disch := first | assumption | omega) only [KL_s, l_1003, l_1004, l_1005, l_1006, l_1007, l_1008, l_1009, l_1010, l_1011, l_1012, l_1013, l_1014, l_1015, l_1016, l_1017, l_1018, l_1019, l_1022, l_1023, l_1024, l_1025, l_1026, l_1027, l_1028, l_1029, l_1030, l_1031, l_1032, l_1033, l_1034, l_1035, l_1036, l_1037, l_1038, l_1041, l_1044, l_1045, q_add, q_in, q_tn, true_and]
  refine st2 hM (fun iv2 jv2 hI2 => ?_)
  simp (disch := first | assumption | omega) only [KL_s, l_1003, l_1004, l_1005, l_1006, l_1007, l_1008, l_1009, l_1010, l_1011, l_1012, l_1013, l_1014, l_1015, l_1016, l_1017, l_1018, l_1019, l_1022, l_1023, l_1024, l_1025, l_1026, l_1027, l_1028, l_1029, l_1030, l_1031, l_1032, l_1033, l_1034, l_1035, l_1036, l_1037, l_1038, l_1041, l_1044, l_1045, if_true]
  exact hn iv2 jv2 hI2
theorem lc_29 (hI : INV t iv jv) (ht : t < 900) (hi : i + 6 ≤ L) (hL : L ≤ 3072) (hn : ∀ iv2 jv2, INV (t + 1) iv2 jv2 → XL L xs 1205 [.ref 1000, .ref 0, .ref 118, .int (nI i)] [] iv2 jv2) : XL L xs 1046 [.ref 1000, .ref 0, .ref 118, .int (nI i)] [] iv jv := by
  simp (disch := first | assumption | omega) only [l_1046, l_1047, l_1048, l_1049, l_1050, l_1051, l_1052, l_1053, l_1054, l_1055, l_1056, l_1057, l_1058, l_1059, l_1060, l_1061, l_1062, l_1065, l_1066, l_1067, l_1068, l_1069, l_1070, l_1071, l_1072, l_1073, l_1074, l_1075, l_1076, l_1077, l_1078, l_1079, l_1080, l_1081, l_1084, l_1087, l_1088, q_add, q_in, q_tn, true_and]
  refine st1 (pr_put (d := 0) hI _ _ _) (fun r iv1 jv1 hM => ?_)
  simp (disch := first | assumption | omega) only [KL_s, l_1046, l_1047, l_1048, l_1049, l_1050, l_1051, l_1052, l_1053, l_1054, l_1055, l_1056, l_1057, l_1058, l_1059, l_1060, l_1061, l_1062, l_1065, l_1066, l_1067, l_1068, l_1069, l_1070, l_1071, l_1072, l_1073, l_1074, l_1075, l_1076, l_1077, l_1078, l_1079, l_1080, l_1081, l_1084, l_1087, l_1088, q_add, q_in, q_tn, true_and]
  refine st2 hM (fun iv2 jv2 hI2 => ?_)
  simp (disch := first | assumption | omega) only [KL_s, l_1046, l_1047, l_1048, l_1049, l_1050, l_1051, l_1052, l_1053, l_1054, l_1055, l_1056, l_1057, l_1058, l_1059, l_1060, l_1061, l_1062, l_1065, l_1066, l_1067, l_1068, l_1069, l_1070, l_1071, l_1072, l_1073, l_1074, l_1075, l_1076, l_1077, l_1078, l_1079, l_1080, l_1081, l_1084, l_1087, l_1088, if_true]
  exact hn iv2 jv2 hI2
theorem lc_30 (hI : INV t iv jv) (ht : t < 900) (hi : i + 6 ≤ L) (hL : L ≤ 3072) (hn : ∀ iv2 jv2, INV (t + 1) iv2 jv2 → XL L xs 1205 [.ref 1000, .ref 0, .ref 118, .int (nI i)] [] iv2 jv2) : XL L xs 1089 [.ref 1000, .ref 0, .ref 118, .int (nI i)] [] iv jv := by
  simp (disch := first | assumption | omega) only [l_1089, l_1090, l_1091, l_1092, l_1093, l_1094, l_1095, l_1096, l_1097, l_1098, l_1099, l_1100, l_1101, l_1102, l_1103, l_1104, l_1105, l_1106, l_1107, l_1108, l_1109, l_1110, l_1111, l_1112, l_1113, l_1114, l_1115, l_1118, l_1119, l_1120, l_1121, l_1122, l_1123, l_1124, l_1125, l_1126, l_1127, l_1128, l_1129, l_1130, l_1131, l_1132, l_1133, l_1134, l_1135, l_1136, l_1137, l_1138, l_1139, l_1140, l_1141, l_1142, l_1143, l_1144, l_1147, l_1150, l_1151, q_add, q_in, q_tn, true_and]
  refine st1 (pr_copy (d := 0) hI _ _ _ _ _) (fun r iv1 jv1 hM => ?_)
  simp (disch := first | assumption | omega) only [KL_s, l_1089, l_1090, l_1091, l_1092, l_1093, l_1094, l_1095, l_1096, l_1097, l_1098, l_1099, l_1100, l_1101, l_1102, l_1103, l_1104, l_1105, l_1106, l_1107, l_1108, l_1109, l_1110, l_1111, l_1112, l_1113, l_1114, l_1115, l_1118, l_1119, l_1120, l_1121, l_1122, l_1123, l_1124, l_1125, l_1126, l_1127, l_1128, l_1129, l_1130, l_1131, l_1132, l_1133, l_1134, l_1135, l_1136, l_1137, l_1138, l_1139, l_1140, l_1141, l_1142, l_1143, l_1144, l_1147, l_1150, l_1151, q_add, q_in, q_tn, true_and]
  refine st2 hM (fun iv2 jv2 hI2 => ?_)
  simp (disch := first | assumption | omega) only [KL_s, l_1089, l_1090, l_1091, l_1092, l_1093, l_1094, l_1095, l_1096, l_1097, l_1098, l_1099, l_1100, l_1101, l_1102, l_1103, l_1104, l_1105, l_1106, l_1107, l_1108, l_1109, l_1110, l_1111, l_1112, l_1113, l_1114, l_1115, l_1118, l_1119, l_1120, l_1121, l_1122, l_1123, l_1124, l_1125, l_1126, l_1127, l_1128, l_1129, l_1130, l_1131, l_1132, l_1133, l_1134, l_1135, l_1136, l_1137, l_1138, l_1139, l_1140, l_1141, l_1142, l_1143, l_1144, l_1147, l_1150, l_1151, if_true]
  exact hn iv2 jv2 hI2
theorem lc_31 (hI : INV t iv jv) (ht : t < 900) (hi : i + 6 ≤ L) (hL : L ≤ 3072) (hn : ∀ iv2 jv2, INV (t + 1) iv2 jv2 → XL L xs 1205 [.ref 1000, .ref 0, .ref 118, .int (nI i)] [] iv2 jv2) : XL L xs 1152 [.ref 1000, .ref 0, .ref 118, .int (nI i)] [] iv jv := by
  simp (disch := first | assumption | omega) only [l_1152, l_1153, l_1154, l_1155, l_1156, l_1157, l_1158, l_1159, l_1160, l_1161, l_1162, l_1163, l_1164, l_1165, l_1166, l_1167, l_1168, l_1169, l_1170, l_1171, l_1172, l_1173, l_1176, l_1177, l_1178, l_1179, l_1180, l_1181, l_1182, l_1183, l_1184, l_1185, l_1186, l_1187, l_1188, l_1189, l_1190, l_1191, l_1192, l_1193, l_1194, l_1195, l_1196, l_1197, l_1200, l_1203, l_1204, q_add, q_in, q_tn, true_and]
  refine st1 (pr_load (d := 0) hI _ _ _ _) (fun r iv1 jv1 hM => ?_)
  simp (disch := first | assumption | omega) only [KL_s, l_1152, l_1153, l_1154, l_1155, l_1156, l_1157, l_1158, l_1159, l_1160, l_1161, l_1162, l_1163, l_1164, l_1165, l_1166, l_1167, l_1168, l_1169, l_1170, l_1171, l_1172, l_1173, l_1176, l_1177, l_1178, l_1179, l_1180, l_1181, l_1182, l_1183, l_1184, l_1185, l_1186, l_1187, l_1188, l_1189, l_1190, l_1191, l_1192, l_1193, l_1194, l_1195, l_1196, l_1197, l_1200, l_1203, l_1204, q_add, q_in, q_tn, true_and]
  refine st2 hM (fun iv2 jv2 hI2 => ?_)
  simp (disch := first | assumption | omega) only [KL_s, l_1152, l_1153, l_1154, l_1155, l_1156, l_1157, l_1158, l_1159, l_1160, l_1161, l_1162, l_1163, l_1164, l_1165, l_1166, l_1167, l_1168, l_1169, l_1170, l_1171, l_1172, l_1173, l_1176, l_1177, l_1178, l_1179, l_1180, l_1181, l_1182, l_1183, l_1184, l_1185, l_1186, l_1187, l_1188, l_1189, l_1190, l_1191, l_1192, l_1193, l_1194, l_1195, l_1196, l_1197, l_1200, l_1203, l_1204, if_true]
  exact hn iv2 jv2 hI2
theorem and31 (x : Int32) : ∃ k, k < 32 ∧ x &&& nI 31 = nI k := by
  have hx : x = nI x.toBitVec.toNat := by
    apply Int32.toBitVec_inj.mp
    show x.toBitVec = BitVec.ofNat 32 x.toBitVec.toNat
    rw [BitVec.ofNat_toNat, BitVec.setWidth_eq]
  refine ⟨x.toBitVec.toNat &&& 31, Nat.lt_of_le_of_lt Nat.and_le_right (by decide), ?_⟩
  rw [← nI_and, ← hx]
theorem sub6 (n : Nat) (hn : n ≤ 3072) : (nI n - nI 6).toInt = (n : Int) - 6 := by
  rw [sub_I (nI n) (by decide) (by rw [nI_toI (by omega)]; omega), nI_toI (by omega)]
  rfl
theorem law_loop (hL : L ≤ 3072) : ∀ n t iv jv, L < 6 * t + 6 * n + 6 → 6 * t ≤ L + 6 → INV t iv jv → XL L xs 18 [.ref 1000, .ref 0, .ref 118, .int (nI (6 * t))] [] iv jv := by
  have hc : ∀ k, k ≤ 4000 → (nI L - nI 6 < nI k) = (L < k + 6) := fun k hk => by
    apply propext
    rw [Int32.lt_iff_toInt_lt, sub6 L hL, nI_toI (by omega)]
    omega
  have ex : ∀ t iv jv, L < 6 * t + 6 → 6 * t ≤ L + 6 → XL L xs 18 [.ref 1000, .ref 0, .ref 118, .int (nI (6 * t))] [] iv jv := fun t iv jv h1 h2 => by
    rw [l_18]
    simp (disch := first | assumption | omega) only [l_19, l_20, l_21, l_23, l_24, l_27, l_28, l_29, l_30, l_32, hc, eq_true h1, if_true, l_1205, l_1208, l_1211, l_1212]
    exact ⟨Or.inr trivial, rfl⟩
  intro n
  induction n with
  | zero =>
    intro t iv jv h h2 hI
    exact ex t iv jv (by omega) h2
  | succ n ih =>
    intro t iv jv h h2 hI
    by_cases p : L < 6 * t + 6
    · exact ex t iv jv p h2
    · have hn : ∀ iv2 jv2, INV (t + 1) iv2 jv2 → XL L xs 1205 [.ref 1000, .ref 0, .ref 118, .int (nI (6 * t))] [] iv2 jv2 := fun iv2 jv2 hI2 => by
        have := ih (t + 1) iv2 jv2 (by omega) (by omega) hI2
        simp (disch := first | assumption | omega) only [l_1205, l_1208, l_1211, l_1212, q_add]
        exact this
      obtain ⟨k, hk, ek⟩ := and31 (xs (6 * t))
      rw [l_18]
      simp (disch := first | assumption | omega) only [l_19, l_20, l_21, l_23, l_24, l_27, l_28, l_29, l_30, l_32, hc, eq_false p, if_false, q_in, q_tn, true_and, ek]
      rcases (show k = 0 ∨ k = 1 ∨ k = 2 ∨ k = 3 ∨ k = 4 ∨ k = 5 ∨ k = 6 ∨ k = 7 ∨ k = 8 ∨ k = 9 ∨ k = 10 ∨ k = 11 ∨ k = 12 ∨ k = 13 ∨ k = 14 ∨ k = 15 ∨ k = 16 ∨ k = 17 ∨ k = 18 ∨ k = 19 ∨ k = 20 ∨ k = 21 ∨ k = 22 ∨ k = 23 ∨ k = 24 ∨ k = 25 ∨ k = 26 ∨ k = 27 ∨ k = 28 ∨ k = 29 ∨ k = 30 ∨ k = 31 from by omega) with rfl | rfl | rfl | rfl | rfl | rfl | rfl | rfl | rfl | rfl | rfl | rfl | rfl | rfl | rfl | rfl | rfl | rfl | rfl | rfl | rfl | rfl | rfl | rfl | rfl | rfl | rfl | rfl | rfl | rfl | rfl | rfl
      · rw [l_33_0]; exact lc_0 hI (by omega) (by omega) hL hn
      · rw [l_33_1]; exact lc_1 hI (by omega) (by omega) hL hn
      · rw [l_33_2]; exact lc_2 hI (by omega) (by omega) hL hn
      · rw [l_33_3]; exact lc_3 hI (by omega) (by omega) hL hn
      · rw [l_33_4]; exact lc_4 hI (by omega) (by omega) hL hn
      · rw [l_33_5]; exact lc_5 hI (by omega) (by omega) hL hn
      · rw [l_33_6]; exact lc_6 hI (by omega) (by omega) hL hn
      · rw [l_33_7]; exact lc_7 hI (by omega) (by omega) hL hn
      · rw [l_33_8]; exact lc_8 hI (by omega) (by omega) hL hn
      · rw [l_33_9]; exact lc_9 hI (by omega) (by omega) hL hn
      · rw [l_33_10]; exact lc_10 hI (by omega) (by omega) hL hn
      · rw [l_33_11]; exact lc_11 hI (by omega) (by omega) hL hn
      · rw [l_33_12]; exact lc_12 hI (by omega) (by omega) hL hn
      · rw [l_33_13]; exact lc_13 hI (by omega) (by omega) hL hn
      · rw [l_33_14]; exact lc_14 hI (by omega) (by omega) hL hn
      · rw [l_33_15]; exact lc_15 hI (by omega) (by omega) hL hn
      · rw [l_33_16]; exact lc_16 hI (by omega) (by omega) hL hn
      · rw [l_33_17]; exact lc_17 hI (by omega) (by omega) hL hn
      · rw [l_33_18]; exact lc_18 hI (by omega) (by omega) hL hn
      · rw [l_33_19]; exact lc_19 hI (by omega) (by omega) hL hn
      · rw [l_33_20]; exact lc_20 hI (by omega) (by omega) hL hn
      · rw [l_33_21]; exact lc_21 hI (by omega) (by omega) hL hn
      · rw [l_33_22]; exact lc_22 hI (by omega) (by omega) hL hn
      · rw [l_33_23]; exact lc_23 hI (by omega) (by omega) hL hn
      · rw [l_33_24]; exact lc_24 hI (by omega) (by omega) hL hn
      · rw [l_33_25]; exact lc_25 hI (by omega) (by omega) hL hn
      · rw [l_33_26]; exact lc_26 hI (by omega) (by omega) hL hn
      · rw [l_33_27]; exact lc_27 hI (by omega) (by omega) hL hn
      · rw [l_33_28]; exact lc_28 hI (by omega) (by omega) hL hn
      · rw [l_33_29]; exact lc_29 hI (by omega) (by omega) hL hn
      · rw [l_33_30]; exact lc_30 hI (by omega) (by omega) hL hn
      · rw [l_33_31]; exact lc_31 hI (by omega) (by omega) hL hn
end LSTEP
