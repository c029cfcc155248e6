/-! THE LAW'S LOOP -/
section LW
variable {X : List Int} {mem : AM} {n t mi la g gm : ST}
theorem sg {k : Nat} (h : k < X.length) : sget X (k : Int) = some (vI (X.getD k 0)) := by
  unfold sget
  rw [if_pos ⟨by omega, by omega⟩, Int.toNat_natCast]
theorem lcmp_s (x : Int) : lcmp x x = 0 := by
  unfold lcmp
  rw [if_neg (by omega), if_pos rfl]
theorem Bth_I {mc mr : MI} {lc lr : List AV} (hB : Bth X mc lc mr lr mem n t mi la g gm) (hrt : mRt mc = some .int) : ∃ x n' t' mi' la' g' gm', ev X mc 0 (vR 0 :: lc) [] (cpt (mpt mem gm n) n t mi la g) = some (some (vI x), mpt (cpt mem n' t' mi' la' g') gm n) ∧ ev X mr 0 (vR 53 :: lr) [] (mpt (cpt mem n' t' mi' la' g') gm n) = some (some (vI x), cpt (mpt mem gm' n') n' t' mi' la' g') ∧ Rla n' t' mi' la' g' gm' := by
  obtain ⟨r, n', t', mi', la', g', gm', h1, h2, h3⟩ := hB
  obtain ⟨x, hx⟩ := (ev_ty h1).1 hrt
  have hx2 : r = vI x := Option.some.inj hx
  subst hx2
  exact ⟨x, n', t', mi', la', g', gm', h1.trans (congrArg some (Prod.ext rfl cm_comm)), h2.trans (congrArg some (Prod.ext rfl cm_comm.symm)), h3⟩
theorem Bth_L {mc mr : MI} {lc lr : List AV} (hB : Bth X mc lc mr lr mem n t mi la g gm) (hrt : mRt mc = some .long) : ∃ x n' t' mi' la' g' gm', ev X mc 0 (vR 0 :: lc) [] (cpt (mpt mem gm n) n t mi la g) = some (some (vL x), mpt (cpt mem n' t' mi' la' g') gm n) ∧ ev X mr 0 (vR 53 :: lr) [] (mpt (cpt mem n' t' mi' la' g') gm n) = some (some (vL x), cpt (mpt mem gm' n') n' t' mi' la' g') ∧ Rla n' t' mi' la' g' gm' := by
  obtain ⟨r, n', t', mi', la', g', gm', h1, h2, h3⟩ := hB
  obtain ⟨x, hx⟩ := (ev_ty h1).2 hrt
  have hx2 : r = vL x := Option.some.inj hx
  subst hx2
  exact ⟨x, n', t', mi', la', g', gm', h1.trans (congrArg some (Prod.ext rfl cm_comm)), h2.trans (congrArg some (Prod.ext rfl cm_comm.symm)), h3⟩
/-- one call of both: the law goes on -/
def Lgo (X : List Int) (mem : AM) (n t mi la g gm : ST) (i : Nat) : Prop := ∃ n' t' mi' la' g' gm', Rla n' t' mi' la' g' gm' ∧ ev X m_law 26 [vX 0, vR 0, vR 53, vI (i : Int)] [] (cpt (mpt mem gm n) n t mi la g) = ev X m_law 1370 [vX 0, vR 0, vR 53, vI (i : Int)] [] (cpt (mpt mem gm' n') n' t' mi' la' g')
theorem lop_0 (hR : Rla n t mi la g gm) {i : Nat} (hX : X.length < 2147483000) (hi : i + 5 ≤ X.length) (hop : and32 (X.getD i 0) 63 = 0) : Lgo X mem n t mi la g gm i := by
  obtain ⟨x, n', t', mi', la', g', gm', h1, h2, h3⟩ := Bth_I (B_letter (X := X) (mem := mem) hR (X.getD (i + 1) 0)) rfl
  have w1 : w32 ((i : Int) + 1) = ((i + 1 : Nat) : Int) := by rw [w32_id (by omega) (by omega)]; omega
  refine ⟨n', t', mi', la', g', gm', h3, ?_⟩
  simp only [eL_law_26, eL_law_26x, eL_law_27, eL_law_28, eL_law_29, eL_law_31, eL_law_32, eL_law_208, eL_law_208x, eL_law_209, eL_law_209x, eL_law_210, eL_law_211, eL_law_212, eL_law_213, eL_law_214, eL_law_217, eL_law_217x, eL_law_218, eL_law_218x, eL_law_219, eL_law_220, eL_law_221, eL_law_222, eL_law_223, eL_law_226, eL_law_229, eL_law_230a, eL_law_230b, eL_law_230c, evb_some, evm_some, evc_some, evc_none, gd, if_true, if_false, eq_self, and_self, and_true, true_and, ne_eq, not_false_eq_true, or_true, true_or, Int.reduceEq, Int.reduceLT, Int.reduceLE, ↓reduceIte, cg0, mg, sg (show i < X.length by omega), hop, w1, sg (show i + 1 < X.length by omega), h1, h2]
theorem lop_1 (hR : Rla n t mi la g gm) {i : Nat} (hX : X.length < 2147483000) (hi : i + 5 ≤ X.length) (hop : and32 (X.getD i 0) 63 = 1) : Lgo X mem n t mi la g gm i := by
  obtain ⟨x, n', t', mi', la', g', gm', h1, h2, h3⟩ := Bth_I (B_duchy (X := X) (mem := mem) hR ) rfl

  refine ⟨n', t', mi', la', g', gm', h3, ?_⟩
  simp only [eL_law_26, eL_law_26x, eL_law_27, eL_law_28, eL_law_29, eL_law_31, eL_law_32, eL_law_231, eL_law_231x, eL_law_232, eL_law_235, eL_law_235x, eL_law_236, eL_law_239, eL_law_242, eL_law_243a, eL_law_243b, eL_law_243c, evb_some, evm_some, evc_some, evc_none, gd, if_true, if_false, eq_self, and_self, and_true, true_and, ne_eq, not_false_eq_true, or_true, true_or, Int.reduceEq, Int.reduceLT, Int.reduceLE, ↓reduceIte, cg0, mg, sg (show i < X.length by omega), hop, h1, h2]
theorem lop_2 (hR : Rla n t mi la g gm) {i : Nat} (hX : X.length < 2147483000) (hi : i + 5 ≤ X.length) (hop : and32 (X.getD i 0) 63 = 2) : Lgo X mem n t mi la g gm i := by
  obtain ⟨x, n', t', mi', la', g', gm', h1, h2, h3⟩ := Bth_I (B_person (X := X) (mem := mem) hR (X.getD (i + 1) 0) (X.getD (i + 2) 0)) rfl
  have w1 : w32 ((i : Int) + 1) = ((i + 1 : Nat) : Int) := by rw [w32_id (by omega) (by omega)]; omega
  have w2 : w32 ((i : Int) + 2) = ((i + 2 : Nat) : Int) := by rw [w32_id (by omega) (by omega)]; omega
  refine ⟨n', t', mi', la', g', gm', h3, ?_⟩
  simp only [eL_law_26, eL_law_26x, eL_law_27, eL_law_28, eL_law_29, eL_law_31, eL_law_32, eL_law_244, eL_law_244x, eL_law_245, eL_law_245x, eL_law_246, eL_law_247, eL_law_248, eL_law_249, eL_law_250, eL_law_250x, eL_law_251, eL_law_252, eL_law_253, eL_law_254, eL_law_255, eL_law_258, eL_law_258x, eL_law_259, eL_law_259x, eL_law_260, eL_law_261, eL_law_262, eL_law_263, eL_law_264, eL_law_264x, eL_law_265, eL_law_266, eL_law_267, eL_law_268, eL_law_269, eL_law_272, eL_law_275, eL_law_276a, eL_law_276b, eL_law_276c, evb_some, evm_some, evc_some, evc_none, gd, if_true, if_false, eq_self, and_self, and_true, true_and, ne_eq, not_false_eq_true, or_true, true_or, Int.reduceEq, Int.reduceLT, Int.reduceLE, ↓reduceIte, cg0, mg, sg (show i < X.length by omega), hop, w1, sg (show i + 1 < X.length by omega), w2, sg (show i + 2 < X.length by omega), h1, h2]
theorem lop_3 (hR : Rla n t mi la g gm) {i : Nat} (hX : X.length < 2147483000) (hi : i + 5 ≤ X.length) (hop : and32 (X.getD i 0) 63 = 3) : Lgo X mem n t mi la g gm i := by
  obtain ⟨x, n', t', mi', la', g', gm', h1, h2, h3⟩ := Bth_I (B_parcel (X := X) (mem := mem) hR (X.getD (i + 1) 0) (X.getD (i + 2) 0)) rfl
  have w1 : w32 ((i : Int) + 1) = ((i + 1 : Nat) : Int) := by rw [w32_id (by omega) (by omega)]; omega
  have w2 : w32 ((i : Int) + 2) = ((i + 2 : Nat) : Int) := by rw [w32_id (by omega) (by omega)]; omega
  refine ⟨n', t', mi', la', g', gm', h3, ?_⟩
  simp only [eL_law_26, eL_law_26x, eL_law_27, eL_law_28, eL_law_29, eL_law_31, eL_law_32, eL_law_277, eL_law_277x, eL_law_278, eL_law_278x, eL_law_279, eL_law_280, eL_law_281, eL_law_282, eL_law_283, eL_law_283x, eL_law_284, eL_law_285, eL_law_286, eL_law_287, eL_law_288, eL_law_291, eL_law_291x, eL_law_292, eL_law_292x, eL_law_293, eL_law_294, eL_law_295, eL_law_296, eL_law_297, eL_law_297x, eL_law_298, eL_law_299, eL_law_300, eL_law_301, eL_law_302, eL_law_305, eL_law_308, eL_law_309a, eL_law_309b, eL_law_309c, evb_some, evm_some, evc_some, evc_none, gd, if_true, if_false, eq_self, and_self, and_true, true_and, ne_eq, not_false_eq_true, or_true, true_or, Int.reduceEq, Int.reduceLT, Int.reduceLE, ↓reduceIte, cg0, mg, sg (show i < X.length by omega), hop, w1, sg (show i + 1 < X.length by omega), w2, sg (show i + 2 < X.length by omega), h1, h2]
theorem lop_4 (hR : Rla n t mi la g gm) {i : Nat} (hX : X.length < 2147483000) (hi : i + 5 ≤ X.length) (hop : and32 (X.getD i 0) 63 = 4) : Lgo X mem n t mi la g gm i := by
  obtain ⟨x, n', t', mi', la', g', gm', h1, h2, h3⟩ := Bth_I (B_hate (X := X) (mem := mem) hR (X.getD (i + 1) 0) (X.getD (i + 2) 0)) rfl
  have w1 : w32 ((i : Int) + 1) = ((i + 1 : Nat) : Int) := by rw [w32_id (by omega) (by omega)]; omega
  have w2 : w32 ((i : Int) + 2) = ((i + 2 : Nat) : Int) := by rw [w32_id (by omega) (by omega)]; omega
  refine ⟨n', t', mi', la', g', gm', h3, ?_⟩
  simp only [eL_law_26, eL_law_26x, eL_law_27, eL_law_28, eL_law_29, eL_law_31, eL_law_32, eL_law_310, eL_law_310x, eL_law_311, eL_law_311x, eL_law_312, eL_law_313, eL_law_314, eL_law_315, eL_law_316, eL_law_316x, eL_law_317, eL_law_318, eL_law_319, eL_law_320, eL_law_321, eL_law_324, eL_law_324x, eL_law_325, eL_law_325x, eL_law_326, eL_law_327, eL_law_328, eL_law_329, eL_law_330, eL_law_330x, eL_law_331, eL_law_332, eL_law_333, eL_law_334, eL_law_335, eL_law_338, eL_law_341, eL_law_342a, eL_law_342b, eL_law_342c, evb_some, evm_some, evc_some, evc_none, gd, if_true, if_false, eq_self, and_self, and_true, true_and, ne_eq, not_false_eq_true, or_true, true_or, Int.reduceEq, Int.reduceLT, Int.reduceLE, ↓reduceIte, cg0, mg, sg (show i < X.length by omega), hop, w1, sg (show i + 1 < X.length by omega), w2, sg (show i + 2 < X.length by omega), h1, h2]
theorem lop_5 (hR : Rla n t mi la g gm) {i : Nat} (hX : X.length < 2147483000) (hi : i + 5 ≤ X.length) (hop : and32 (X.getD i 0) 63 = 5) : Lgo X mem n t mi la g gm i := by
  obtain ⟨x, n', t', mi', la', g', gm', h1, h2, h3⟩ := Bth_I (B_posts (X := X) (mem := mem) hR (X.getD (i + 1) 0) (X.getD (i + 2) 0)) rfl
  have w1 : w32 ((i : Int) + 1) = ((i + 1 : Nat) : Int) := by rw [w32_id (by omega) (by omega)]; omega
  have w2 : w32 ((i : Int) + 2) = ((i + 2 : Nat) : Int) := by rw [w32_id (by omega) (by omega)]; omega
  refine ⟨n', t', mi', la', g', gm', h3, ?_⟩
  simp only [eL_law_26, eL_law_26x, eL_law_27, eL_law_28, eL_law_29, eL_law_31, eL_law_32, eL_law_343, eL_law_343x, eL_law_344, eL_law_344x, eL_law_345, eL_law_346, eL_law_347, eL_law_348, eL_law_349, eL_law_349x, eL_law_350, eL_law_351, eL_law_352, eL_law_353, eL_law_354, eL_law_357, eL_law_357x, eL_law_358, eL_law_358x, eL_law_359, eL_law_360, eL_law_361, eL_law_362, eL_law_363, eL_law_363x, eL_law_364, eL_law_365, eL_law_366, eL_law_367, eL_law_368, eL_law_371, eL_law_374, eL_law_375a, eL_law_375b, eL_law_375c, evb_some, evm_some, evc_some, evc_none, gd, if_true, if_false, eq_self, and_self, and_true, true_and, ne_eq, not_false_eq_true, or_true, true_or, Int.reduceEq, Int.reduceLT, Int.reduceLE, ↓reduceIte, cg0, mg, sg (show i < X.length by omega), hop, w1, sg (show i + 1 < X.length by omega), w2, sg (show i + 2 < X.length by omega), h1, h2]
theorem lop_6 (hR : Rla n t mi la g gm) {i : Nat} (hX : X.length < 2147483000) (hi : i + 5 ≤ X.length) (hop : and32 (X.getD i 0) 63 = 6) : Lgo X mem n t mi la g gm i := by
  obtain ⟨x, n', t', mi', la', g', gm', h1, h2, h3⟩ := Bth_I (B_hates (X := X) (mem := mem) hR (X.getD (i + 1) 0) (X.getD (i + 2) 0) (X.getD (i + 3) 0)) rfl
  have w1 : w32 ((i : Int) + 1) = ((i + 1 : Nat) : Int) := by rw [w32_id (by omega) (by omega)]; omega
  have w2 : w32 ((i : Int) + 2) = ((i + 2 : Nat) : Int) := by rw [w32_id (by omega) (by omega)]; omega
  have w3 : w32 ((i : Int) + 3) = ((i + 3 : Nat) : Int) := by rw [w32_id (by omega) (by omega)]; omega
  refine ⟨n', t', mi', la', g', gm', h3, ?_⟩
  simp only [eL_law_26, eL_law_26x, eL_law_27, eL_law_28, eL_law_29, eL_law_31, eL_law_32, eL_law_376, eL_law_376x, eL_law_377, eL_law_377x, eL_law_378, eL_law_379, eL_law_380, eL_law_381, eL_law_382, eL_law_382x, eL_law_383, eL_law_384, eL_law_385, eL_law_386, eL_law_387, eL_law_387x, eL_law_388, eL_law_389, eL_law_390, eL_law_391, eL_law_392, eL_law_395, eL_law_395x, eL_law_396, eL_law_396x, eL_law_397, eL_law_398, eL_law_399, eL_law_400, eL_law_401, eL_law_401x, eL_law_402, eL_law_403, eL_law_404, eL_law_405, eL_law_406, eL_law_406x, eL_law_407, eL_law_408, eL_law_409, eL_law_410, eL_law_411, eL_law_414, eL_law_417, eL_law_418a, eL_law_418b, eL_law_418c, evb_some, evm_some, evc_some, evc_none, gd, if_true, if_false, eq_self, and_self, and_true, true_and, ne_eq, not_false_eq_true, or_true, true_or, Int.reduceEq, Int.reduceLT, Int.reduceLE, ↓reduceIte, cg0, mg, sg (show i < X.length by omega), hop, w1, sg (show i + 1 < X.length by omega), w2, sg (show i + 2 < X.length by omega), w3, sg (show i + 3 < X.length by omega), h1, h2]
theorem lop_7 (hR : Rla n t mi la g gm) {i : Nat} (hX : X.length < 2147483000) (hi : i + 5 ≤ X.length) (hop : and32 (X.getD i 0) 63 = 7) : Lgo X mem n t mi la g gm i := by
  obtain ⟨x, n', t', mi', la', g', gm', h1, h2, h3⟩ := Bth_I (B_slights (X := X) (mem := mem) hR (X.getD (i + 1) 0) (X.getD (i + 2) 0)) rfl
  have w1 : w32 ((i : Int) + 1) = ((i + 1 : Nat) : Int) := by rw [w32_id (by omega) (by omega)]; omega
  have w2 : w32 ((i : Int) + 2) = ((i + 2 : Nat) : Int) := by rw [w32_id (by omega) (by omega)]; omega
  refine ⟨n', t', mi', la', g', gm', h3, ?_⟩
  simp only [eL_law_26, eL_law_26x, eL_law_27, eL_law_28, eL_law_29, eL_law_31, eL_law_32, eL_law_419, eL_law_419x, eL_law_420, eL_law_420x, eL_law_421, eL_law_422, eL_law_423, eL_law_424, eL_law_425, eL_law_425x, eL_law_426, eL_law_427, eL_law_428, eL_law_429, eL_law_430, eL_law_433, eL_law_433x, eL_law_434, eL_law_434x, eL_law_435, eL_law_436, eL_law_437, eL_law_438, eL_law_439, eL_law_439x, eL_law_440, eL_law_441, eL_law_442, eL_law_443, eL_law_444, eL_law_447, eL_law_450, eL_law_451a, eL_law_451b, eL_law_451c, evb_some, evm_some, evc_some, evc_none, gd, if_true, if_false, eq_self, and_self, and_true, true_and, ne_eq, not_false_eq_true, or_true, true_or, Int.reduceEq, Int.reduceLT, Int.reduceLE, ↓reduceIte, cg0, mg, sg (show i < X.length by omega), hop, w1, sg (show i + 1 < X.length by omega), w2, sg (show i + 2 < X.length by omega), h1, h2]
theorem lop_8 (hR : Rla n t mi la g gm) {i : Nat} (hX : X.length < 2147483000) (hi : i + 5 ≤ X.length) (hop : and32 (X.getD i 0) 63 = 8) : Lgo X mem n t mi la g gm i := by
  obtain ⟨x, n', t', mi', la', g', gm', h1, h2, h3⟩ := Bth_I (B_peace (X := X) (mem := mem) hR (X.getD (i + 1) 0) (X.getD (i + 2) 0)) rfl
  have w1 : w32 ((i : Int) + 1) = ((i + 1 : Nat) : Int) := by rw [w32_id (by omega) (by omega)]; omega
  have w2 : w32 ((i : Int) + 2) = ((i + 2 : Nat) : Int) := by rw [w32_id (by omega) (by omega)]; omega
  refine ⟨n', t', mi', la', g', gm', h3, ?_⟩
  simp only [eL_law_26, eL_law_26x, eL_law_27, eL_law_28, eL_law_29, eL_law_31, eL_law_32, eL_law_452, eL_law_452x, eL_law_453, eL_law_453x, eL_law_454, eL_law_455, eL_law_456, eL_law_457, eL_law_458, eL_law_458x, eL_law_459, eL_law_460, eL_law_461, eL_law_462, eL_law_463, eL_law_466, eL_law_466x, eL_law_467, eL_law_467x, eL_law_468, eL_law_469, eL_law_470, eL_law_471, eL_law_472, eL_law_472x, eL_law_473, eL_law_474, eL_law_475, eL_law_476, eL_law_477, eL_law_480, eL_law_483, eL_law_484a, eL_law_484b, eL_law_484c, evb_some, evm_some, evc_some, evc_none, gd, if_true, if_false, eq_self, and_self, and_true, true_and, ne_eq, not_false_eq_true, or_true, true_or, Int.reduceEq, Int.reduceLT, Int.reduceLE, ↓reduceIte, cg0, mg, sg (show i < X.length by omega), hop, w1, sg (show i + 1 < X.length by omega), w2, sg (show i + 2 < X.length by omega), h1, h2]
theorem lop_9 (hR : Rla n t mi la g gm) {i : Nat} (hX : X.length < 2147483000) (hi : i + 5 ≤ X.length) (hop : and32 (X.getD i 0) 63 = 9) : Lgo X mem n t mi la g gm i := by
  obtain ⟨x, n', t', mi', la', g', gm', h1, h2, h3⟩ := Bth_I (B_moves (X := X) (mem := mem) hR (X.getD (i + 1) 0) (X.getD (i + 2) 0)) rfl
  have w1 : w32 ((i : Int) + 1) = ((i + 1 : Nat) : Int) := by rw [w32_id (by omega) (by omega)]; omega
  have w2 : w32 ((i : Int) + 2) = ((i + 2 : Nat) : Int) := by rw [w32_id (by omega) (by omega)]; omega
  refine ⟨n', t', mi', la', g', gm', h3, ?_⟩
  simp only [eL_law_26, eL_law_26x, eL_law_27, eL_law_28, eL_law_29, eL_law_31, eL_law_32, eL_law_485, eL_law_485x, eL_law_486, eL_law_486x, eL_law_487, eL_law_488, eL_law_489, eL_law_490, eL_law_491, eL_law_491x, eL_law_492, eL_law_493, eL_law_494, eL_law_495, eL_law_496, eL_law_499, eL_law_499x, eL_law_500, eL_law_500x, eL_law_501, eL_law_502, eL_law_503, eL_law_504, eL_law_505, eL_law_505x, eL_law_506, eL_law_507, eL_law_508, eL_law_509, eL_law_510, eL_law_513, eL_law_516, eL_law_517a, eL_law_517b, eL_law_517c, evb_some, evm_some, evc_some, evc_none, gd, if_true, if_false, eq_self, and_self, and_true, true_and, ne_eq, not_false_eq_true, or_true, true_or, Int.reduceEq, Int.reduceLT, Int.reduceLE, ↓reduceIte, cg0, mg, sg (show i < X.length by omega), hop, w1, sg (show i + 1 < X.length by omega), w2, sg (show i + 2 < X.length by omega), h1, h2]
theorem lop_10 (hR : Rla n t mi la g gm) {i : Nat} (hX : X.length < 2147483000) (hi : i + 5 ≤ X.length) (hop : and32 (X.getD i 0) 63 = 10) : Lgo X mem n t mi la g gm i := by
  obtain ⟨x, n', t', mi', la', g', gm', h1, h2, h3⟩ := Bth_I (B_turn (X := X) (mem := mem) hR (X.getD (i + 1) 0) (X.getD (i + 2) 0) (X.getD (i + 3) 0)) rfl
  have w1 : w32 ((i : Int) + 1) = ((i + 1 : Nat) : Int) := by rw [w32_id (by omega) (by omega)]; omega
  have w2 : w32 ((i : Int) + 2) = ((i + 2 : Nat) : Int) := by rw [w32_id (by omega) (by omega)]; omega
  have w3 : w32 ((i : Int) + 3) = ((i + 3 : Nat) : Int) := by rw [w32_id (by omega) (by omega)]; omega
  refine ⟨n', t', mi', la', g', gm', h3, ?_⟩
  simp only [eL_law_26, eL_law_26x, eL_law_27, eL_law_28, eL_law_29, eL_law_31, eL_law_32, eL_law_518, eL_law_518x, eL_law_519, eL_law_519x, eL_law_520, eL_law_521, eL_law_522, eL_law_523, eL_law_524, eL_law_524x, eL_law_525, eL_law_526, eL_law_527, eL_law_528, eL_law_529, eL_law_529x, eL_law_530, eL_law_531, eL_law_532, eL_law_533, eL_law_534, eL_law_537, eL_law_537x, eL_law_538, eL_law_538x, eL_law_539, eL_law_540, eL_law_541, eL_law_542, eL_law_543, eL_law_543x, eL_law_544, eL_law_545, eL_law_546, eL_law_547, eL_law_548, eL_law_548x, eL_law_549, eL_law_550, eL_law_551, eL_law_552, eL_law_553, eL_law_556, eL_law_559, eL_law_560a, eL_law_560b, eL_law_560c, evb_some, evm_some, evc_some, evc_none, gd, if_true, if_false, eq_self, and_self, and_true, true_and, ne_eq, not_false_eq_true, or_true, true_or, Int.reduceEq, Int.reduceLT, Int.reduceLE, ↓reduceIte, cg0, mg, sg (show i < X.length by omega), hop, w1, sg (show i + 1 < X.length by omega), w2, sg (show i + 2 < X.length by omega), w3, sg (show i + 3 < X.length by omega), h1, h2]
theorem lop_11 (hR : Rla n t mi la g gm) {i : Nat} (hX : X.length < 2147483000) (hi : i + 5 ≤ X.length) (hop : and32 (X.getD i 0) 63 = 11) : Lgo X mem n t mi la g gm i := by
  obtain ⟨x, n', t', mi', la', g', gm', h1, h2, h3⟩ := Bth_I (B_days (X := X) (mem := mem) hR (X.getD (i + 1) 0)) rfl
  have w1 : w32 ((i : Int) + 1) = ((i + 1 : Nat) : Int) := by rw [w32_id (by omega) (by omega)]; omega
  refine ⟨n', t', mi', la', g', gm', h3, ?_⟩
  simp only [eL_law_26, eL_law_26x, eL_law_27, eL_law_28, eL_law_29, eL_law_31, eL_law_32, eL_law_561, eL_law_561x, eL_law_562, eL_law_562x, eL_law_563, eL_law_564, eL_law_565, eL_law_566, eL_law_567, eL_law_570, eL_law_570x, eL_law_571, eL_law_571x, eL_law_572, eL_law_573, eL_law_574, eL_law_575, eL_law_576, eL_law_579, eL_law_582, eL_law_583a, eL_law_583b, eL_law_583c, evb_some, evm_some, evc_some, evc_none, gd, if_true, if_false, eq_self, and_self, and_true, true_and, ne_eq, not_false_eq_true, or_true, true_or, Int.reduceEq, Int.reduceLT, Int.reduceLE, ↓reduceIte, cg0, mg, sg (show i < X.length by omega), hop, w1, sg (show i + 1 < X.length by omega), h1, h2]
theorem lop_12 (hR : Rla n t mi la g gm) {i : Nat} (hX : X.length < 2147483000) (hi : i + 5 ≤ X.length) (hop : and32 (X.getD i 0) 63 = 12) : Lgo X mem n t mi la g gm i := by
  obtain ⟨x, n', t', mi', la', g', gm', h1, h2, h3⟩ := Bth_I (B_parcelThen (X := X) (mem := mem) hR (X.getD (i + 1) 0) (X.getD (i + 2) 0) (X.getD (i + 3) 0)) rfl
  have w1 : w32 ((i : Int) + 1) = ((i + 1 : Nat) : Int) := by rw [w32_id (by omega) (by omega)]; omega
  have w2 : w32 ((i : Int) + 2) = ((i + 2 : Nat) : Int) := by rw [w32_id (by omega) (by omega)]; omega
  have w3 : w32 ((i : Int) + 3) = ((i + 3 : Nat) : Int) := by rw [w32_id (by omega) (by omega)]; omega
  refine ⟨n', t', mi', la', g', gm', h3, ?_⟩
  simp only [eL_law_26, eL_law_26x, eL_law_27, eL_law_28, eL_law_29, eL_law_31, eL_law_32, eL_law_584, eL_law_584x, eL_law_585, eL_law_585x, eL_law_586, eL_law_587, eL_law_588, eL_law_589, eL_law_590, eL_law_590x, eL_law_591, eL_law_592, eL_law_593, eL_law_594, eL_law_595, eL_law_595x, eL_law_596, eL_law_597, eL_law_598, eL_law_599, eL_law_600, eL_law_603, eL_law_603x, eL_law_604, eL_law_604x, eL_law_605, eL_law_606, eL_law_607, eL_law_608, eL_law_609, eL_law_609x, eL_law_610, eL_law_611, eL_law_612, eL_law_613, eL_law_614, eL_law_614x, eL_law_615, eL_law_616, eL_law_617, eL_law_618, eL_law_619, eL_law_622, eL_law_625, eL_law_626a, eL_law_626b, eL_law_626c, evb_some, evm_some, evc_some, evc_none, gd, if_true, if_false, eq_self, and_self, and_true, true_and, ne_eq, not_false_eq_true, or_true, true_or, Int.reduceEq, Int.reduceLT, Int.reduceLE, ↓reduceIte, cg0, mg, sg (show i < X.length by omega), hop, w1, sg (show i + 1 < X.length by omega), w2, sg (show i + 2 < X.length by omega), w3, sg (show i + 3 < X.length by omega), h1, h2]
theorem lop_13 (hR : Rla n t mi la g gm) {i : Nat} (hX : X.length < 2147483000) (hi : i + 5 ≤ X.length) (hop : and32 (X.getD i 0) 63 = 13) : Lgo X mem n t mi la g gm i := by
  obtain ⟨x, n', t', mi', la', g', gm', h1, h2, h3⟩ := Bth_I (B_hateThen (X := X) (mem := mem) hR (X.getD (i + 1) 0) (X.getD (i + 2) 0) (X.getD (i + 3) 0)) rfl
  have w1 : w32 ((i : Int) + 1) = ((i + 1 : Nat) : Int) := by rw [w32_id (by omega) (by omega)]; omega
  have w2 : w32 ((i : Int) + 2) = ((i + 2 : Nat) : Int) := by rw [w32_id (by omega) (by omega)]; omega
  have w3 : w32 ((i : Int) + 3) = ((i + 3 : Nat) : Int) := by rw [w32_id (by omega) (by omega)]; omega
  refine ⟨n', t', mi', la', g', gm', h3, ?_⟩
  simp only [eL_law_26, eL_law_26x, eL_law_27, eL_law_28, eL_law_29, eL_law_31, eL_law_32, eL_law_627, eL_law_627x, eL_law_628, eL_law_628x, eL_law_629, eL_law_630, eL_law_631, eL_law_632, eL_law_633, eL_law_633x, eL_law_634, eL_law_635, eL_law_636, eL_law_637, eL_law_638, eL_law_638x, eL_law_639, eL_law_640, eL_law_641, eL_law_642, eL_law_643, eL_law_646, eL_law_646x, eL_law_647, eL_law_647x, eL_law_648, eL_law_649, eL_law_650, eL_law_651, eL_law_652, eL_law_652x, eL_law_653, eL_law_654, eL_law_655, eL_law_656, eL_law_657, eL_law_657x, eL_law_658, eL_law_659, eL_law_660, eL_law_661, eL_law_662, eL_law_665, eL_law_668, eL_law_669a, eL_law_669b, eL_law_669c, evb_some, evm_some, evc_some, evc_none, gd, if_true, if_false, eq_self, and_self, and_true, true_and, ne_eq, not_false_eq_true, or_true, true_or, Int.reduceEq, Int.reduceLT, Int.reduceLE, ↓reduceIte, cg0, mg, sg (show i < X.length by omega), hop, w1, sg (show i + 1 < X.length by omega), w2, sg (show i + 2 < X.length by omega), w3, sg (show i + 3 < X.length by omega), h1, h2]
theorem lop_14 (hR : Rla n t mi la g gm) {i : Nat} (hX : X.length < 2147483000) (hi : i + 5 ≤ X.length) (hop : and32 (X.getD i 0) 63 = 14) : Lgo X mem n t mi la g gm i := by
  obtain ⟨x, n', t', mi', la', g', gm', h1, h2, h3⟩ := Bth_I (B_gotThen (X := X) (mem := mem) hR (X.getD (i + 1) 0) (X.getD (i + 2) 0)) rfl
  have w1 : w32 ((i : Int) + 1) = ((i + 1 : Nat) : Int) := by rw [w32_id (by omega) (by omega)]; omega
  have w2 : w32 ((i : Int) + 2) = ((i + 2 : Nat) : Int) := by rw [w32_id (by omega) (by omega)]; omega
  refine ⟨n', t', mi', la', g', gm', h3, ?_⟩
  simp only [eL_law_26, eL_law_26x, eL_law_27, eL_law_28, eL_law_29, eL_law_31, eL_law_32, eL_law_670, eL_law_670x, eL_law_671, eL_law_671x, eL_law_672, eL_law_673, eL_law_674, eL_law_675, eL_law_676, eL_law_676x, eL_law_677, eL_law_678, eL_law_679, eL_law_680, eL_law_681, eL_law_684, eL_law_684x, eL_law_685, eL_law_685x, eL_law_686, eL_law_687, eL_law_688, eL_law_689, eL_law_690, eL_law_690x, eL_law_691, eL_law_692, eL_law_693, eL_law_694, eL_law_695, eL_law_698, eL_law_701, eL_law_702a, eL_law_702b, eL_law_702c, evb_some, evm_some, evc_some, evc_none, gd, if_true, if_false, eq_self, and_self, and_true, true_and, ne_eq, not_false_eq_true, or_true, true_or, Int.reduceEq, Int.reduceLT, Int.reduceLE, ↓reduceIte, cg0, mg, sg (show i < X.length by omega), hop, w1, sg (show i + 1 < X.length by omega), w2, sg (show i + 2 < X.length by omega), h1, h2]
theorem lop_15 (hR : Rla n t mi la g gm) {i : Nat} (hX : X.length < 2147483000) (hi : i + 5 ≤ X.length) (hop : and32 (X.getD i 0) 63 = 15) : Lgo X mem n t mi la g gm i := by
  obtain ⟨x, n', t', mi', la', g', gm', h1, h2, h3⟩ := Bth_I (B_when (X := X) (mem := mem) hR (X.getD (i + 1) 0)) rfl
  have w1 : w32 ((i : Int) + 1) = ((i + 1 : Nat) : Int) := by rw [w32_id (by omega) (by omega)]; omega
  refine ⟨n', t', mi', la', g', gm', h3, ?_⟩
  simp only [eL_law_26, eL_law_26x, eL_law_27, eL_law_28, eL_law_29, eL_law_31, eL_law_32, eL_law_703, eL_law_703x, eL_law_704, eL_law_704x, eL_law_705, eL_law_706, eL_law_707, eL_law_708, eL_law_709, eL_law_712, eL_law_712x, eL_law_713, eL_law_713x, eL_law_714, eL_law_715, eL_law_716, eL_law_717, eL_law_718, eL_law_721, eL_law_724, eL_law_725a, eL_law_725b, eL_law_725c, evb_some, evm_some, evc_some, evc_none, gd, if_true, if_false, eq_self, and_self, and_true, true_and, ne_eq, not_false_eq_true, or_true, true_or, Int.reduceEq, Int.reduceLT, Int.reduceLE, ↓reduceIte, cg0, mg, sg (show i < X.length by omega), hop, w1, sg (show i + 1 < X.length by omega), h1, h2]
theorem lop_16 (hR : Rla n t mi la g gm) {i : Nat} (hX : X.length < 2147483000) (hi : i + 5 ≤ X.length) (hop : and32 (X.getD i 0) 63 = 16) : Lgo X mem n t mi la g gm i := by
  obtain ⟨x, n', t', mi', la', g', gm', h1, h2, h3⟩ := Bth_I (B_first (X := X) (mem := mem) hR (X.getD (i + 1) 0)) rfl
  have w1 : w32 ((i : Int) + 1) = ((i + 1 : Nat) : Int) := by rw [w32_id (by omega) (by omega)]; omega
  refine ⟨n', t', mi', la', g', gm', h3, ?_⟩
  simp only [eL_law_26, eL_law_26x, eL_law_27, eL_law_28, eL_law_29, eL_law_31, eL_law_32, eL_law_726, eL_law_726x, eL_law_727, eL_law_727x, eL_law_728, eL_law_729, eL_law_730, eL_law_731, eL_law_732, eL_law_735, eL_law_735x, eL_law_736, eL_law_736x, eL_law_737, eL_law_738, eL_law_739, eL_law_740, eL_law_741, eL_law_744, eL_law_747, eL_law_748a, eL_law_748b, eL_law_748c, evb_some, evm_some, evc_some, evc_none, gd, if_true, if_false, eq_self, and_self, and_true, true_and, ne_eq, not_false_eq_true, or_true, true_or, Int.reduceEq, Int.reduceLT, Int.reduceLE, ↓reduceIte, cg0, mg, sg (show i < X.length by omega), hop, w1, sg (show i + 1 < X.length by omega), h1, h2]
theorem lop_17 (hR : Rla n t mi la g gm) {i : Nat} (hX : X.length < 2147483000) (hi : i + 5 ≤ X.length) (hop : and32 (X.getD i 0) 63 = 17) : Lgo X mem n t mi la g gm i := by
  obtain ⟨x, n', t', mi', la', g', gm', h1, h2, h3⟩ := Bth_I (B_enemy (X := X) (mem := mem) hR (X.getD (i + 1) 0) (X.getD (i + 2) 0)) rfl
  have w1 : w32 ((i : Int) + 1) = ((i + 1 : Nat) : Int) := by rw [w32_id (by omega) (by omega)]; omega
  have w2 : w32 ((i : Int) + 2) = ((i + 2 : Nat) : Int) := by rw [w32_id (by omega) (by omega)]; omega
  refine ⟨n', t', mi', la', g', gm', h3, ?_⟩
  simp only [eL_law_26, eL_law_26x, eL_law_27, eL_law_28, eL_law_29, eL_law_31, eL_law_32, eL_law_749, eL_law_749x, eL_law_750, eL_law_750x, eL_law_751, eL_law_752, eL_law_753, eL_law_754, eL_law_755, eL_law_755x, eL_law_756, eL_law_757, eL_law_758, eL_law_759, eL_law_760, eL_law_763, eL_law_763x, eL_law_764, eL_law_764x, eL_law_765, eL_law_766, eL_law_767, eL_law_768, eL_law_769, eL_law_769x, eL_law_770, eL_law_771, eL_law_772, eL_law_773, eL_law_774, eL_law_777, eL_law_780, eL_law_781a, eL_law_781b, eL_law_781c, evb_some, evm_some, evc_some, evc_none, gd, if_true, if_false, eq_self, and_self, and_true, true_and, ne_eq, not_false_eq_true, or_true, true_or, Int.reduceEq, Int.reduceLT, Int.reduceLE, ↓reduceIte, cg0, mg, sg (show i < X.length by omega), hop, w1, sg (show i + 1 < X.length by omega), w2, sg (show i + 2 < X.length by omega), h1, h2]
theorem lop_18 (hR : Rla n t mi la g gm) {i : Nat} (hX : X.length < 2147483000) (hi : i + 5 ≤ X.length) (hop : and32 (X.getD i 0) 63 = 18) : Lgo X mem n t mi la g gm i := by
  obtain ⟨x, n', t', mi', la', g', gm', h1, h2, h3⟩ := Bth_I (B_malice (X := X) (mem := mem) hR (X.getD (i + 1) 0) (X.getD (i + 2) 0)) rfl
  have w1 : w32 ((i : Int) + 1) = ((i + 1 : Nat) : Int) := by rw [w32_id (by omega) (by omega)]; omega
  have w2 : w32 ((i : Int) + 2) = ((i + 2 : Nat) : Int) := by rw [w32_id (by omega) (by omega)]; omega
  refine ⟨n', t', mi', la', g', gm', h3, ?_⟩
  simp only [eL_law_26, eL_law_26x, eL_law_27, eL_law_28, eL_law_29, eL_law_31, eL_law_32, eL_law_782, eL_law_782x, eL_law_783, eL_law_783x, eL_law_784, eL_law_785, eL_law_786, eL_law_787, eL_law_788, eL_law_788x, eL_law_789, eL_law_790, eL_law_791, eL_law_792, eL_law_793, eL_law_796, eL_law_796x, eL_law_797, eL_law_797x, eL_law_798, eL_law_799, eL_law_800, eL_law_801, eL_law_802, eL_law_802x, eL_law_803, eL_law_804, eL_law_805, eL_law_806, eL_law_807, eL_law_810, eL_law_813, eL_law_814a, eL_law_814b, eL_law_814c, evb_some, evm_some, evc_some, evc_none, gd, if_true, if_false, eq_self, and_self, and_true, true_and, ne_eq, not_false_eq_true, or_true, true_or, Int.reduceEq, Int.reduceLT, Int.reduceLE, ↓reduceIte, cg0, mg, sg (show i < X.length by omega), hop, w1, sg (show i + 1 < X.length by omega), w2, sg (show i + 2 < X.length by omega), h1, h2]
theorem lop_19 (hR : Rla n t mi la g gm) {i : Nat} (hX : X.length < 2147483000) (hi : i + 5 ≤ X.length) (hop : and32 (X.getD i 0) 63 = 19) : Lgo X mem n t mi la g gm i := by
  obtain ⟨x, n', t', mi', la', g', gm', h1, h2, h3⟩ := Bth_I (B_loved (X := X) (mem := mem) hR ) rfl

  refine ⟨n', t', mi', la', g', gm', h3, ?_⟩
  simp only [eL_law_26, eL_law_26x, eL_law_27, eL_law_28, eL_law_29, eL_law_31, eL_law_32, eL_law_815, eL_law_815x, eL_law_816, eL_law_819, eL_law_819x, eL_law_820, eL_law_823, eL_law_826, eL_law_827a, eL_law_827b, eL_law_827c, evb_some, evm_some, evc_some, evc_none, gd, if_true, if_false, eq_self, and_self, and_true, true_and, ne_eq, not_false_eq_true, or_true, true_or, Int.reduceEq, Int.reduceLT, Int.reduceLE, ↓reduceIte, cg0, mg, sg (show i < X.length by omega), hop, h1, h2]
theorem lop_20 (hR : Rla n t mi la g gm) {i : Nat} (hX : X.length < 2147483000) (hi : i + 5 ≤ X.length) (hop : and32 (X.getD i 0) 63 = 20) : Lgo X mem n t mi la g gm i := by
  obtain ⟨x, n', t', mi', la', g', gm', h1, h2, h3⟩ := Bth_I (B_busiest (X := X) (mem := mem) hR (X.getD (i + 1) 0)) rfl
  have w1 : w32 ((i : Int) + 1) = ((i + 1 : Nat) : Int) := by rw [w32_id (by omega) (by omega)]; omega
  refine ⟨n', t', mi', la', g', gm', h3, ?_⟩
  simp only [eL_law_26, eL_law_26x, eL_law_27, eL_law_28, eL_law_29, eL_law_31, eL_law_32, eL_law_828, eL_law_828x, eL_law_829, eL_law_829x, eL_law_830, eL_law_831, eL_law_832, eL_law_833, eL_law_834, eL_law_837, eL_law_837x, eL_law_838, eL_law_838x, eL_law_839, eL_law_840, eL_law_841, eL_law_842, eL_law_843, eL_law_846, eL_law_849, eL_law_850a, eL_law_850b, eL_law_850c, evb_some, evm_some, evc_some, evc_none, gd, if_true, if_false, eq_self, and_self, and_true, true_and, ne_eq, not_false_eq_true, or_true, true_or, Int.reduceEq, Int.reduceLT, Int.reduceLE, ↓reduceIte, cg0, mg, sg (show i < X.length by omega), hop, w1, sg (show i + 1 < X.length by omega), h1, h2]
theorem lop_21 (hR : Rla n t mi la g gm) {i : Nat} (hX : X.length < 2147483000) (hi : i + 5 ≤ X.length) (hop : and32 (X.getD i 0) 63 = 21) : Lgo X mem n t mi la g gm i := by
  obtain ⟨x, n', t', mi', la', g', gm', h1, h2, h3⟩ := Bth_I (B_ring (X := X) (mem := mem) hR (X.getD (i + 1) 0) (X.getD (i + 2) 0)) rfl
  have w1 : w32 ((i : Int) + 1) = ((i + 1 : Nat) : Int) := by rw [w32_id (by omega) (by omega)]; omega
  have w2 : w32 ((i : Int) + 2) = ((i + 2 : Nat) : Int) := by rw [w32_id (by omega) (by omega)]; omega
  refine ⟨n', t', mi', la', g', gm', h3, ?_⟩
  simp only [eL_law_26, eL_law_26x, eL_law_27, eL_law_28, eL_law_29, eL_law_31, eL_law_32, eL_law_851, eL_law_851x, eL_law_852, eL_law_852x, eL_law_853, eL_law_854, eL_law_855, eL_law_856, eL_law_857, eL_law_857x, eL_law_858, eL_law_859, eL_law_860, eL_law_861, eL_law_862, eL_law_865, eL_law_865x, eL_law_866, eL_law_866x, eL_law_867, eL_law_868, eL_law_869, eL_law_870, eL_law_871, eL_law_871x, eL_law_872, eL_law_873, eL_law_874, eL_law_875, eL_law_876, eL_law_879, eL_law_882, eL_law_883a, eL_law_883b, eL_law_883c, evb_some, evm_some, evc_some, evc_none, gd, if_true, if_false, eq_self, and_self, and_true, true_and, ne_eq, not_false_eq_true, or_true, true_or, Int.reduceEq, Int.reduceLT, Int.reduceLE, ↓reduceIte, cg0, mg, sg (show i < X.length by omega), hop, w1, sg (show i + 1 < X.length by omega), w2, sg (show i + 2 < X.length by omega), h1, h2]
theorem lop_22 (hR : Rla n t mi la g gm) {i : Nat} (hX : X.length < 2147483000) (hi : i + 5 ≤ X.length) (hop : and32 (X.getD i 0) 63 = 22) : Lgo X mem n t mi la g gm i := by
  obtain ⟨x, n', t', mi', la', g', gm', h1, h2, h3⟩ := Bth_I (B_slight (X := X) (mem := mem) hR (X.getD (i + 1) 0)) rfl
  have w1 : w32 ((i : Int) + 1) = ((i + 1 : Nat) : Int) := by rw [w32_id (by omega) (by omega)]; omega
  refine ⟨n', t', mi', la', g', gm', h3, ?_⟩
  simp only [eL_law_26, eL_law_26x, eL_law_27, eL_law_28, eL_law_29, eL_law_31, eL_law_32, eL_law_884, eL_law_884x, eL_law_885, eL_law_885x, eL_law_886, eL_law_887, eL_law_888, eL_law_889, eL_law_890, eL_law_893, eL_law_893x, eL_law_894, eL_law_894x, eL_law_895, eL_law_896, eL_law_897, eL_law_898, eL_law_899, eL_law_902, eL_law_905, eL_law_906a, eL_law_906b, eL_law_906c, evb_some, evm_some, evc_some, evc_none, gd, if_true, if_false, eq_self, and_self, and_true, true_and, ne_eq, not_false_eq_true, or_true, true_or, Int.reduceEq, Int.reduceLT, Int.reduceLE, ↓reduceIte, cg0, mg, sg (show i < X.length by omega), hop, w1, sg (show i + 1 < X.length by omega), h1, h2]
theorem lop_23 (hR : Rla n t mi la g gm) {i : Nat} (hX : X.length < 2147483000) (hi : i + 5 ≤ X.length) (hop : and32 (X.getD i 0) 63 = 23) : Lgo X mem n t mi la g gm i := by
  obtain ⟨x, n', t', mi', la', g', gm', h1, h2, h3⟩ := Bth_I (B_cost (X := X) (mem := mem) hR (X.getD (i + 1) 0) (X.getD (i + 2) 0)) rfl
  have w1 : w32 ((i : Int) + 1) = ((i + 1 : Nat) : Int) := by rw [w32_id (by omega) (by omega)]; omega
  have w2 : w32 ((i : Int) + 2) = ((i + 2 : Nat) : Int) := by rw [w32_id (by omega) (by omega)]; omega
  refine ⟨n', t', mi', la', g', gm', h3, ?_⟩
  simp only [eL_law_26, eL_law_26x, eL_law_27, eL_law_28, eL_law_29, eL_law_31, eL_law_32, eL_law_907, eL_law_907x, eL_law_908, eL_law_908x, eL_law_909, eL_law_910, eL_law_911, eL_law_912, eL_law_913, eL_law_913x, eL_law_914, eL_law_915, eL_law_916, eL_law_917, eL_law_918, eL_law_921, eL_law_921x, eL_law_922, eL_law_922x, eL_law_923, eL_law_924, eL_law_925, eL_law_926, eL_law_927, eL_law_927x, eL_law_928, eL_law_929, eL_law_930, eL_law_931, eL_law_932, eL_law_935, eL_law_938, eL_law_939a, eL_law_939b, eL_law_939c, evb_some, evm_some, evc_some, evc_none, gd, if_true, if_false, eq_self, and_self, and_true, true_and, ne_eq, not_false_eq_true, or_true, true_or, Int.reduceEq, Int.reduceLT, Int.reduceLE, ↓reduceIte, cg0, mg, sg (show i < X.length by omega), hop, w1, sg (show i + 1 < X.length by omega), w2, sg (show i + 2 < X.length by omega), h1, h2]
theorem lop_24 (hR : Rla n t mi la g gm) {i : Nat} (hX : X.length < 2147483000) (hi : i + 5 ≤ X.length) (hop : and32 (X.getD i 0) 63 = 24) : Lgo X mem n t mi la g gm i := by
  obtain ⟨x, n', t', mi', la', g', gm', h1, h2, h3⟩ := Bth_I (B_makeUp (X := X) (mem := mem) hR (X.getD (i + 1) 0)) rfl
  have w1 : w32 ((i : Int) + 1) = ((i + 1 : Nat) : Int) := by rw [w32_id (by omega) (by omega)]; omega
  refine ⟨n', t', mi', la', g', gm', h3, ?_⟩
  simp only [eL_law_26, eL_law_26x, eL_law_27, eL_law_28, eL_law_29, eL_law_31, eL_law_32, eL_law_940, eL_law_940x, eL_law_941, eL_law_941x, eL_law_942, eL_law_943, eL_law_944, eL_law_945, eL_law_946, eL_law_949, eL_law_949x, eL_law_950, eL_law_950x, eL_law_951, eL_law_952, eL_law_953, eL_law_954, eL_law_955, eL_law_958, eL_law_961, eL_law_962a, eL_law_962b, eL_law_962c, evb_some, evm_some, evc_some, evc_none, gd, if_true, if_false, eq_self, and_self, and_true, true_and, ne_eq, not_false_eq_true, or_true, true_or, Int.reduceEq, Int.reduceLT, Int.reduceLE, ↓reduceIte, cg0, mg, sg (show i < X.length by omega), hop, w1, sg (show i + 1 < X.length by omega), h1, h2]
theorem lop_25 (hR : Rla n t mi la g gm) {i : Nat} (hX : X.length < 2147483000) (hi : i + 5 ≤ X.length) (hop : and32 (X.getD i 0) 63 = 25) : Lgo X mem n t mi la g gm i := by
  obtain ⟨x, n', t', mi', la', g', gm', h1, h2, h3⟩ := Bth_I (B_post (X := X) (mem := mem) hR (X.getD (i + 1) 0) (X.getD (i + 2) 0)) rfl
  have w1 : w32 ((i : Int) + 1) = ((i + 1 : Nat) : Int) := by rw [w32_id (by omega) (by omega)]; omega
  have w2 : w32 ((i : Int) + 2) = ((i + 2 : Nat) : Int) := by rw [w32_id (by omega) (by omega)]; omega
  refine ⟨n', t', mi', la', g', gm', h3, ?_⟩
  simp only [eL_law_26, eL_law_26x, eL_law_27, eL_law_28, eL_law_29, eL_law_31, eL_law_32, eL_law_963, eL_law_963x, eL_law_964, eL_law_964x, eL_law_965, eL_law_966, eL_law_967, eL_law_968, eL_law_969, eL_law_969x, eL_law_970, eL_law_971, eL_law_972, eL_law_973, eL_law_974, eL_law_977, eL_law_977x, eL_law_978, eL_law_978x, eL_law_979, eL_law_980, eL_law_981, eL_law_982, eL_law_983, eL_law_983x, eL_law_984, eL_law_985, eL_law_986, eL_law_987, eL_law_988, eL_law_991, eL_law_994, eL_law_995a, eL_law_995b, eL_law_995c, evb_some, evm_some, evc_some, evc_none, gd, if_true, if_false, eq_self, and_self, and_true, true_and, ne_eq, not_false_eq_true, or_true, true_or, Int.reduceEq, Int.reduceLT, Int.reduceLE, ↓reduceIte, cg0, mg, sg (show i < X.length by omega), hop, w1, sg (show i + 1 < X.length by omega), w2, sg (show i + 2 < X.length by omega), h1, h2]
theorem lop_26 (hR : Rla n t mi la g gm) {i : Nat} (hX : X.length < 2147483000) (hi : i + 5 ≤ X.length) (hop : and32 (X.getD i 0) 63 = 26) : Lgo X mem n t mi la g gm i := by
  obtain ⟨x, n', t', mi', la', g', gm', h1, h2, h3⟩ := Bth_I (B_road (X := X) (mem := mem) hR (X.getD (i + 1) 0) (X.getD (i + 2) 0)) rfl
  have w1 : w32 ((i : Int) + 1) = ((i + 1 : Nat) : Int) := by rw [w32_id (by omega) (by omega)]; omega
  have w2 : w32 ((i : Int) + 2) = ((i + 2 : Nat) : Int) := by rw [w32_id (by omega) (by omega)]; omega
  refine ⟨n', t', mi', la', g', gm', h3, ?_⟩
  simp only [eL_law_26, eL_law_26x, eL_law_27, eL_law_28, eL_law_29, eL_law_31, eL_law_32, eL_law_996, eL_law_996x, eL_law_997, eL_law_997x, eL_law_998, eL_law_999, eL_law_1000, eL_law_1001, eL_law_1002, eL_law_1002x, eL_law_1003, eL_law_1004, eL_law_1005, eL_law_1006, eL_law_1007, eL_law_1010, eL_law_1010x, eL_law_1011, eL_law_1011x, eL_law_1012, eL_law_1013, eL_law_1014, eL_law_1015, eL_law_1016, eL_law_1016x, eL_law_1017, eL_law_1018, eL_law_1019, eL_law_1020, eL_law_1021, eL_law_1024, eL_law_1027, eL_law_1028a, eL_law_1028b, eL_law_1028c, evb_some, evm_some, evc_some, evc_none, gd, if_true, if_false, eq_self, and_self, and_true, true_and, ne_eq, not_false_eq_true, or_true, true_or, Int.reduceEq, Int.reduceLT, Int.reduceLE, ↓reduceIte, cg0, mg, sg (show i < X.length by omega), hop, w1, sg (show i + 1 < X.length by omega), w2, sg (show i + 2 < X.length by omega), h1, h2]
theorem lop_27 (hR : Rla n t mi la g gm) {i : Nat} (hX : X.length < 2147483000) (hi : i + 5 ≤ X.length) (hop : and32 (X.getD i 0) 63 = 27) : Lgo X mem n t mi la g gm i := by
  obtain ⟨x, n', t', mi', la', g', gm', h1, h2, h3⟩ := Bth_I (B_farthest (X := X) (mem := mem) hR ) rfl

  refine ⟨n', t', mi', la', g', gm', h3, ?_⟩
  simp only [eL_law_26, eL_law_26x, eL_law_27, eL_law_28, eL_law_29, eL_law_31, eL_law_32, eL_law_1029, eL_law_1029x, eL_law_1030, eL_law_1033, eL_law_1033x, eL_law_1034, eL_law_1037, eL_law_1040, eL_law_1041a, eL_law_1041b, eL_law_1041c, evb_some, evm_some, evc_some, evc_none, gd, if_true, if_false, eq_self, and_self, and_true, true_and, ne_eq, not_false_eq_true, or_true, true_or, Int.reduceEq, Int.reduceLT, Int.reduceLE, ↓reduceIte, cg0, mg, sg (show i < X.length by omega), hop, h1, h2]
theorem lop_28 (hR : Rla n t mi la g gm) {i : Nat} (hX : X.length < 2147483000) (hi : i + 5 ≤ X.length) (hop : and32 (X.getD i 0) 63 = 28) : Lgo X mem n t mi la g gm i := by
  obtain ⟨x, n', t', mi', la', g', gm', h1, h2, h3⟩ := Bth_I (B_fair (X := X) (mem := mem) hR (X.getD (i + 1) 0)) rfl
  have w1 : w32 ((i : Int) + 1) = ((i + 1 : Nat) : Int) := by rw [w32_id (by omega) (by omega)]; omega
  refine ⟨n', t', mi', la', g', gm', h3, ?_⟩
  simp only [eL_law_26, eL_law_26x, eL_law_27, eL_law_28, eL_law_29, eL_law_31, eL_law_32, eL_law_1042, eL_law_1042x, eL_law_1043, eL_law_1043x, eL_law_1044, eL_law_1045, eL_law_1046, eL_law_1047, eL_law_1048, eL_law_1051, eL_law_1051x, eL_law_1052, eL_law_1052x, eL_law_1053, eL_law_1054, eL_law_1055, eL_law_1056, eL_law_1057, eL_law_1060, eL_law_1063, eL_law_1064a, eL_law_1064b, eL_law_1064c, evb_some, evm_some, evc_some, evc_none, gd, if_true, if_false, eq_self, and_self, and_true, true_and, ne_eq, not_false_eq_true, or_true, true_or, Int.reduceEq, Int.reduceLT, Int.reduceLE, ↓reduceIte, cg0, mg, sg (show i < X.length by omega), hop, w1, sg (show i + 1 < X.length by omega), h1, h2]
theorem lop_29 (hR : Rla n t mi la g gm) {i : Nat} (hX : X.length < 2147483000) (hi : i + 5 ≤ X.length) (hop : and32 (X.getD i 0) 63 = 29) : Lgo X mem n t mi la g gm i := by
  obtain ⟨x, n', t', mi', la', g', gm', h1, h2, h3⟩ := Bth_I (B_two (X := X) (mem := mem) hR (X.getD (i + 1) 0) (X.getD (i + 2) 0) (X.getD (i + 3) 0)) rfl
  have w1 : w32 ((i : Int) + 1) = ((i + 1 : Nat) : Int) := by rw [w32_id (by omega) (by omega)]; omega
  have w2 : w32 ((i : Int) + 2) = ((i + 2 : Nat) : Int) := by rw [w32_id (by omega) (by omega)]; omega
  have w3 : w32 ((i : Int) + 3) = ((i + 3 : Nat) : Int) := by rw [w32_id (by omega) (by omega)]; omega
  refine ⟨n', t', mi', la', g', gm', h3, ?_⟩
  simp only [eL_law_26, eL_law_26x, eL_law_27, eL_law_28, eL_law_29, eL_law_31, eL_law_32, eL_law_1065, eL_law_1065x, eL_law_1066, eL_law_1066x, eL_law_1067, eL_law_1068, eL_law_1069, eL_law_1070, eL_law_1071, eL_law_1071x, eL_law_1072, eL_law_1073, eL_law_1074, eL_law_1075, eL_law_1076, eL_law_1076x, eL_law_1077, eL_law_1078, eL_law_1079, eL_law_1080, eL_law_1081, eL_law_1084, eL_law_1084x, eL_law_1085, eL_law_1085x, eL_law_1086, eL_law_1087, eL_law_1088, eL_law_1089, eL_law_1090, eL_law_1090x, eL_law_1091, eL_law_1092, eL_law_1093, eL_law_1094, eL_law_1095, eL_law_1095x, eL_law_1096, eL_law_1097, eL_law_1098, eL_law_1099, eL_law_1100, eL_law_1103, eL_law_1106, eL_law_1107a, eL_law_1107b, eL_law_1107c, evb_some, evm_some, evc_some, evc_none, gd, if_true, if_false, eq_self, and_self, and_true, true_and, ne_eq, not_false_eq_true, or_true, true_or, Int.reduceEq, Int.reduceLT, Int.reduceLE, ↓reduceIte, cg0, mg, sg (show i < X.length by omega), hop, w1, sg (show i + 1 < X.length by omega), w2, sg (show i + 2 < X.length by omega), w3, sg (show i + 3 < X.length by omega), h1, h2]
theorem lop_30 (hR : Rla n t mi la g gm) {i : Nat} (hX : X.length < 2147483000) (hi : i + 5 ≤ X.length) (hop : and32 (X.getD i 0) 63 = 30) : Lgo X mem n t mi la g gm i := by
  obtain ⟨x, n', t', mi', la', g', gm', h1, h2, h3⟩ := Bth_L (B_snow (X := X) (mem := mem) hR (X.getD (i + 1) 0) (X.getD (i + 2) 0) (X.getD (i + 3) 0) (X.getD (i + 4) 0)) rfl
  have w1 : w32 ((i : Int) + 1) = ((i + 1 : Nat) : Int) := by rw [w32_id (by omega) (by omega)]; omega
  have w2 : w32 ((i : Int) + 2) = ((i + 2 : Nat) : Int) := by rw [w32_id (by omega) (by omega)]; omega
  have w3 : w32 ((i : Int) + 3) = ((i + 3 : Nat) : Int) := by rw [w32_id (by omega) (by omega)]; omega
  have w4 : w32 ((i : Int) + 4) = ((i + 4 : Nat) : Int) := by rw [w32_id (by omega) (by omega)]; omega
  refine ⟨n', t', mi', la', g', gm', h3, ?_⟩
  simp only [eL_law_26, eL_law_26x, eL_law_27, eL_law_28, eL_law_29, eL_law_31, eL_law_32, eL_law_1108, eL_law_1108x, eL_law_1109, eL_law_1109x, eL_law_1110, eL_law_1111, eL_law_1112, eL_law_1113, eL_law_1114, eL_law_1114x, eL_law_1115, eL_law_1116, eL_law_1117, eL_law_1118, eL_law_1119, eL_law_1119x, eL_law_1120, eL_law_1121, eL_law_1122, eL_law_1123, eL_law_1124, eL_law_1124x, eL_law_1125, eL_law_1126, eL_law_1127, eL_law_1128, eL_law_1129, eL_law_1132, eL_law_1132x, eL_law_1133, eL_law_1133x, eL_law_1134, eL_law_1135, eL_law_1136, eL_law_1137, eL_law_1138, eL_law_1138x, eL_law_1139, eL_law_1140, eL_law_1141, eL_law_1142, eL_law_1143, eL_law_1143x, eL_law_1144, eL_law_1145, eL_law_1146, eL_law_1147, eL_law_1148, eL_law_1148x, eL_law_1149, eL_law_1150, eL_law_1151, eL_law_1152, eL_law_1153, eL_law_1156, eL_law_1157, eL_law_1160, eL_law_1161a, eL_law_1161b, eL_law_1161c, evb_some, evm_some, evc_some, evc_none, gd, if_true, if_false, eq_self, and_self, and_true, true_and, ne_eq, not_false_eq_true, or_true, true_or, Int.reduceEq, Int.reduceLT, Int.reduceLE, ↓reduceIte, cg0, mg, sg (show i < X.length by omega), hop, w1, sg (show i + 1 < X.length by omega), w2, sg (show i + 2 < X.length by omega), w3, sg (show i + 3 < X.length by omega), w4, sg (show i + 4 < X.length by omega), h1, h2, lcmp_s]
theorem lop_31 (hR : Rla n t mi la g gm) {i : Nat} (hX : X.length < 2147483000) (hi : i + 5 ≤ X.length) (hop : and32 (X.getD i 0) 63 = 31) : Lgo X mem n t mi la g gm i := by
  obtain ⟨x, n', t', mi', la', g', gm', h1, h2, h3⟩ := Bth_L (B_mean (X := X) (mem := mem) hR (X.getD (i + 1) 0)) rfl
  have w1 : w32 ((i : Int) + 1) = ((i + 1 : Nat) : Int) := by rw [w32_id (by omega) (by omega)]; omega
  refine ⟨n', t', mi', la', g', gm', h3, ?_⟩
  simp only [eL_law_26, eL_law_26x, eL_law_27, eL_law_28, eL_law_29, eL_law_31, eL_law_32, eL_law_1162, eL_law_1162x, eL_law_1163, eL_law_1163x, eL_law_1164, eL_law_1165, eL_law_1166, eL_law_1167, eL_law_1168, eL_law_1171, eL_law_1171x, eL_law_1172, eL_law_1172x, eL_law_1173, eL_law_1174, eL_law_1175, eL_law_1176, eL_law_1177, eL_law_1180, eL_law_1181, eL_law_1184, eL_law_1185a, eL_law_1185b, eL_law_1185c, evb_some, evm_some, evc_some, evc_none, gd, if_true, if_false, eq_self, and_self, and_true, true_and, ne_eq, not_false_eq_true, or_true, true_or, Int.reduceEq, Int.reduceLT, Int.reduceLE, ↓reduceIte, cg0, mg, sg (show i < X.length by omega), hop, w1, sg (show i + 1 < X.length by omega), h1, h2, lcmp_s]
theorem lop_32 (hR : Rla n t mi la g gm) {i : Nat} (hX : X.length < 2147483000) (hi : i + 5 ≤ X.length) (hop : and32 (X.getD i 0) 63 = 32) : Lgo X mem n t mi la g gm i := by
  obtain ⟨x, n', t', mi', la', g', gm', h1, h2, h3⟩ := Bth_I (B_who (X := X) (mem := mem) hR (X.getD (i + 1) 0) (X.getD (i + 2) 0) (X.getD (i + 3) 0)) rfl
  have w1 : w32 ((i : Int) + 1) = ((i + 1 : Nat) : Int) := by rw [w32_id (by omega) (by omega)]; omega
  have w2 : w32 ((i : Int) + 2) = ((i + 2 : Nat) : Int) := by rw [w32_id (by omega) (by omega)]; omega
  have w3 : w32 ((i : Int) + 3) = ((i + 3 : Nat) : Int) := by rw [w32_id (by omega) (by omega)]; omega
  refine ⟨n', t', mi', la', g', gm', h3, ?_⟩
  simp only [eL_law_26, eL_law_26x, eL_law_27, eL_law_28, eL_law_29, eL_law_31, eL_law_32, eL_law_1186, eL_law_1186x, eL_law_1187, eL_law_1187x, eL_law_1188, eL_law_1189, eL_law_1190, eL_law_1191, eL_law_1192, eL_law_1192x, eL_law_1193, eL_law_1194, eL_law_1195, eL_law_1196, eL_law_1197, eL_law_1197x, eL_law_1198, eL_law_1199, eL_law_1200, eL_law_1201, eL_law_1202, eL_law_1205, eL_law_1205x, eL_law_1206, eL_law_1206x, eL_law_1207, eL_law_1208, eL_law_1209, eL_law_1210, eL_law_1211, eL_law_1211x, eL_law_1212, eL_law_1213, eL_law_1214, eL_law_1215, eL_law_1216, eL_law_1216x, eL_law_1217, eL_law_1218, eL_law_1219, eL_law_1220, eL_law_1221, eL_law_1224, eL_law_1227, eL_law_1228a, eL_law_1228b, eL_law_1228c, evb_some, evm_some, evc_some, evc_none, gd, if_true, if_false, eq_self, and_self, and_true, true_and, ne_eq, not_false_eq_true, or_true, true_or, Int.reduceEq, Int.reduceLT, Int.reduceLE, ↓reduceIte, cg0, mg, sg (show i < X.length by omega), hop, w1, sg (show i + 1 < X.length by omega), w2, sg (show i + 2 < X.length by omega), w3, sg (show i + 3 < X.length by omega), h1, h2]
theorem lop_33 (hR : Rla n t mi la g gm) {i : Nat} (hX : X.length < 2147483000) (hi : i + 5 ≤ X.length) (hop : and32 (X.getD i 0) 63 = 33) : Lgo X mem n t mi la g gm i := by
  obtain ⟨x, n', t', mi', la', g', gm', h1, h2, h3⟩ := Bth_I (B_row (X := X) (mem := mem) hR (X.getD (i + 1) 0)) rfl
  have w1 : w32 ((i : Int) + 1) = ((i + 1 : Nat) : Int) := by rw [w32_id (by omega) (by omega)]; omega
  refine ⟨n', t', mi', la', g', gm', h3, ?_⟩
  simp only [eL_law_26, eL_law_26x, eL_law_27, eL_law_28, eL_law_29, eL_law_31, eL_law_32, eL_law_1229, eL_law_1229x, eL_law_1230, eL_law_1230x, eL_law_1231, eL_law_1232, eL_law_1233, eL_law_1234, eL_law_1235, eL_law_1238, eL_law_1238x, eL_law_1239, eL_law_1239x, eL_law_1240, eL_law_1241, eL_law_1242, eL_law_1243, eL_law_1244, eL_law_1247, eL_law_1250, eL_law_1251a, eL_law_1251b, eL_law_1251c, evb_some, evm_some, evc_some, evc_none, gd, if_true, if_false, eq_self, and_self, and_true, true_and, ne_eq, not_false_eq_true, or_true, true_or, Int.reduceEq, Int.reduceLT, Int.reduceLE, ↓reduceIte, cg0, mg, sg (show i < X.length by omega), hop, w1, sg (show i + 1 < X.length by omega), h1, h2]
theorem lop_34 (hR : Rla n t mi la g gm) {i : Nat} (hX : X.length < 2147483000) (hi : i + 5 ≤ X.length) (hop : and32 (X.getD i 0) 63 = 34) : Lgo X mem n t mi la g gm i := by
  obtain ⟨x, n', t', mi', la', g', gm', h1, h2, h3⟩ := Bth_I (B_judge (X := X) (mem := mem) hR ) rfl

  refine ⟨n', t', mi', la', g', gm', h3, ?_⟩
  simp only [eL_law_26, eL_law_26x, eL_law_27, eL_law_28, eL_law_29, eL_law_31, eL_law_32, eL_law_1252, eL_law_1252x, eL_law_1253, eL_law_1256, eL_law_1256x, eL_law_1257, eL_law_1260, eL_law_1263, eL_law_1264a, eL_law_1264b, eL_law_1264c, evb_some, evm_some, evc_some, evc_none, gd, if_true, if_false, eq_self, and_self, and_true, true_and, ne_eq, not_false_eq_true, or_true, true_or, Int.reduceEq, Int.reduceLT, Int.reduceLE, ↓reduceIte, cg0, mg, sg (show i < X.length by omega), hop, h1, h2]
theorem lop_35 (hR : Rla n t mi la g gm) {i : Nat} (hX : X.length < 2147483000) (hi : i + 5 ≤ X.length) (hop : and32 (X.getD i 0) 63 = 35) : Lgo X mem n t mi la g gm i := by
  obtain ⟨x, n', t', mi', la', g', gm', h1, h2, h3⟩ := Bth_I (B_clear (X := X) (mem := mem) hR ) rfl

  refine ⟨n', t', mi', la', g', gm', h3, ?_⟩
  simp only [eL_law_26, eL_law_26x, eL_law_27, eL_law_28, eL_law_29, eL_law_31, eL_law_32, eL_law_1265, eL_law_1265x, eL_law_1266, eL_law_1269, eL_law_1269x, eL_law_1270, eL_law_1273, eL_law_1276, eL_law_1277a, eL_law_1277b, eL_law_1277c, evb_some, evm_some, evc_some, evc_none, gd, if_true, if_false, eq_self, and_self, and_true, true_and, ne_eq, not_false_eq_true, or_true, true_or, Int.reduceEq, Int.reduceLT, Int.reduceLE, ↓reduceIte, cg0, mg, sg (show i < X.length by omega), hop, h1, h2]
theorem lop_36 (hR : Rla n t mi la g gm) {i : Nat} (hX : X.length < 2147483000) (hi : i + 5 ≤ X.length) (hop : and32 (X.getD i 0) 63 = 36) : Lgo X mem n t mi la g gm i := by
  obtain ⟨x, n', t', mi', la', g', gm', h1, h2, h3⟩ := Bth_I (B_lots (X := X) (mem := mem) hR (X.getD (i + 1) 0) (X.getD (i + 2) 0) (X.getD (i + 3) 0)) rfl
  have w1 : w32 ((i : Int) + 1) = ((i + 1 : Nat) : Int) := by rw [w32_id (by omega) (by omega)]; omega
  have w2 : w32 ((i : Int) + 2) = ((i + 2 : Nat) : Int) := by rw [w32_id (by omega) (by omega)]; omega
  have w3 : w32 ((i : Int) + 3) = ((i + 3 : Nat) : Int) := by rw [w32_id (by omega) (by omega)]; omega
  refine ⟨n', t', mi', la', g', gm', h3, ?_⟩
  simp only [eL_law_26, eL_law_26x, eL_law_27, eL_law_28, eL_law_29, eL_law_31, eL_law_32, eL_law_1278, eL_law_1278x, eL_law_1279, eL_law_1279x, eL_law_1280, eL_law_1281, eL_law_1282, eL_law_1283, eL_law_1284, eL_law_1284x, eL_law_1285, eL_law_1286, eL_law_1287, eL_law_1288, eL_law_1289, eL_law_1289x, eL_law_1290, eL_law_1291, eL_law_1292, eL_law_1293, eL_law_1294, eL_law_1297, eL_law_1297x, eL_law_1298, eL_law_1298x, eL_law_1299, eL_law_1300, eL_law_1301, eL_law_1302, eL_law_1303, eL_law_1303x, eL_law_1304, eL_law_1305, eL_law_1306, eL_law_1307, eL_law_1308, eL_law_1308x, eL_law_1309, eL_law_1310, eL_law_1311, eL_law_1312, eL_law_1313, eL_law_1316, eL_law_1319, eL_law_1320a, eL_law_1320b, eL_law_1320c, evb_some, evm_some, evc_some, evc_none, gd, if_true, if_false, eq_self, and_self, and_true, true_and, ne_eq, not_false_eq_true, or_true, true_or, Int.reduceEq, Int.reduceLT, Int.reduceLE, ↓reduceIte, cg0, mg, sg (show i < X.length by omega), hop, w1, sg (show i + 1 < X.length by omega), w2, sg (show i + 2 < X.length by omega), w3, sg (show i + 3 < X.length by omega), h1, h2]
theorem lop_37 (hR : Rla n t mi la g gm) {i : Nat} (hX : X.length < 2147483000) (hi : i + 5 ≤ X.length) (hop : and32 (X.getD i 0) 63 = 37) : Lgo X mem n t mi la g gm i := by
  obtain ⟨x, n', t', mi', la', g', gm', h1, h2, h3⟩ := Bth_I (B_image (X := X) (mem := mem) hR ) rfl

  refine ⟨n', t', mi', la', g', gm', h3, ?_⟩
  simp only [eL_law_26, eL_law_26x, eL_law_27, eL_law_28, eL_law_29, eL_law_31, eL_law_32, eL_law_1321, eL_law_1321x, eL_law_1322, eL_law_1325, eL_law_1325x, eL_law_1326, eL_law_1329, eL_law_1332, eL_law_1333a, eL_law_1333b, eL_law_1333c, evb_some, evm_some, evc_some, evc_none, gd, if_true, if_false, eq_self, and_self, and_true, true_and, ne_eq, not_false_eq_true, or_true, true_or, Int.reduceEq, Int.reduceLT, Int.reduceLE, ↓reduceIte, cg0, mg, sg (show i < X.length by omega), hop, h1, h2]
theorem lop_38 (hR : Rla n t mi la g gm) {i : Nat} (hX : X.length < 2147483000) (hi : i + 5 ≤ X.length) (hop : and32 (X.getD i 0) 63 = 38) : Lgo X mem n t mi la g gm i := by
  obtain ⟨x, n', t', mi', la', g', gm', h1, h2, h3⟩ := Bth_I (B_on (X := X) (mem := mem) hR ) rfl

  refine ⟨n', t', mi', la', g', gm', h3, ?_⟩
  simp only [eL_law_26, eL_law_26x, eL_law_27, eL_law_28, eL_law_29, eL_law_31, eL_law_32, eL_law_1334, eL_law_1334x, eL_law_1335, eL_law_1338, eL_law_1338x, eL_law_1339, eL_law_1342, eL_law_1345, eL_law_1346a, eL_law_1346b, eL_law_1346c, evb_some, evm_some, evc_some, evc_none, gd, if_true, if_false, eq_self, and_self, and_true, true_and, ne_eq, not_false_eq_true, or_true, true_or, Int.reduceEq, Int.reduceLT, Int.reduceLE, ↓reduceIte, cg0, mg, sg (show i < X.length by omega), hop, h1, h2]
theorem lop_39 (hR : Rla n t mi la g gm) {i : Nat} (hX : X.length < 2147483000) (hi : i + 5 ≤ X.length) (hop : and32 (X.getD i 0) 63 = 39) : Lgo X mem n t mi la g gm i := by
  obtain ⟨x, n', t', mi', la', g', gm', h1, h2, h3⟩ := Bth_I (B_count (X := X) (mem := mem) hR (X.getD (i + 1) 0)) rfl
  have w1 : w32 ((i : Int) + 1) = ((i + 1 : Nat) : Int) := by rw [w32_id (by omega) (by omega)]; omega
  refine ⟨n', t', mi', la', g', gm', h3, ?_⟩
  simp only [eL_law_26, eL_law_26x, eL_law_27, eL_law_28, eL_law_29, eL_law_31, eL_law_32, eL_law_1347, eL_law_1347x, eL_law_1348, eL_law_1348x, eL_law_1349, eL_law_1350, eL_law_1351, eL_law_1352, eL_law_1353, eL_law_1356, eL_law_1356x, eL_law_1357, eL_law_1357x, eL_law_1358, eL_law_1359, eL_law_1360, eL_law_1361, eL_law_1362, eL_law_1365, eL_law_1368, eL_law_1369a, eL_law_1369b, eL_law_1369c, evb_some, evm_some, evc_some, evc_none, gd, if_true, if_false, eq_self, and_self, and_true, true_and, ne_eq, not_false_eq_true, or_true, true_or, Int.reduceEq, Int.reduceLT, Int.reduceLE, ↓reduceIte, cg0, mg, sg (show i < X.length by omega), hop, w1, sg (show i + 1 < X.length by omega), h1, h2]
theorem and63 (x : Int) : 0 ≤ and32 x 63 ∧ and32 x 63 < 64 := by
  unfold and32
  have h : (Int32.ofInt x &&& Int32.ofInt 63).toBitVec.toNat < 64 := by
    show ((Int32.ofInt x).toBitVec &&& (Int32.ofInt 63).toBitVec).toNat < 64
    rw [BitVec.toNat_and, show ((Int32.ofInt 63).toBitVec).toNat = 2 ^ 6 - 1 by decide, Nat.and_two_pow_sub_one_eq_mod]
    exact Nat.mod_lt _ (by decide)
  show 0 ≤ (Int32.ofInt x &&& Int32.ofInt 63).toBitVec.toInt ∧ (Int32.ofInt x &&& Int32.ofInt 63).toBitVec.toInt < 64
  generalize (Int32.ofInt x &&& Int32.ofInt 63).toBitVec = b at h ⊢
  rw [BitVec.toInt_eq_toNat_cond, if_pos (by omega)]
  omega
theorem lop_o (hR : Rla n t mi la g gm) {i : Nat} (hX : X.length < 2147483000) (hi : i + 5 ≤ X.length) (hop : 40 ≤ and32 (X.getD i 0) 63) : Lgo X mem n t mi la g gm i := by
  refine ⟨n, t, mi, la, g, gm, hR, ?_⟩
  generalize ho : and32 (X.getD i 0) 63 = z at hop
  simp only [eL_law_26, eL_law_26x, eL_law_27, eL_law_28, eL_law_29, eL_law_31, eL_law_32, evb_some, evm_some, evc_some, evc_none, gd, if_true, if_false, eq_self, and_self, and_true, true_and, ne_eq, not_false_eq_true, or_true, true_or, Int.reduceEq, Int.reduceLT, Int.reduceLE, ↓reduceIte, sg (show i < X.length by omega), ho, show ¬ z = 0 by omega, show ¬ z = 1 by omega, show ¬ z = 2 by omega, show ¬ z = 3 by omega, show ¬ z = 4 by omega, show ¬ z = 5 by omega, show ¬ z = 6 by omega, show ¬ z = 7 by omega, show ¬ z = 8 by omega, show ¬ z = 9 by omega, show ¬ z = 10 by omega, show ¬ z = 11 by omega, show ¬ z = 12 by omega, show ¬ z = 13 by omega, show ¬ z = 14 by omega, show ¬ z = 15 by omega, show ¬ z = 16 by omega, show ¬ z = 17 by omega, show ¬ z = 18 by omega, show ¬ z = 19 by omega, show ¬ z = 20 by omega, show ¬ z = 21 by omega, show ¬ z = 22 by omega, show ¬ z = 23 by omega, show ¬ z = 24 by omega, show ¬ z = 25 by omega, show ¬ z = 26 by omega, show ¬ z = 27 by omega, show ¬ z = 28 by omega, show ¬ z = 29 by omega, show ¬ z = 30 by omega, show ¬ z = 31 by omega, show ¬ z = 32 by omega, show ¬ z = 33 by omega, show ¬ z = 34 by omega, show ¬ z = 35 by omega, show ¬ z = 36 by omega, show ¬ z = 37 by omega, show ¬ z = 38 by omega, show ¬ z = 39 by omega]
theorem lop (hR : Rla n t mi la g gm) {i : Nat} (hX : X.length < 2147483000) (hi : i + 5 ≤ X.length) : Lgo X mem n t mi la g gm i := by
  have h1 := and63 (X.getD i 0)
  by_cases h40 : 40 ≤ and32 (X.getD i 0) 63
  · exact lop_o hR hX hi h40
  by_cases h_0 : and32 (X.getD i 0) 63 = 0
  · exact lop_0 hR hX hi h_0
  by_cases h_1 : and32 (X.getD i 0) 63 = 1
  · exact lop_1 hR hX hi h_1
  by_cases h_2 : and32 (X.getD i 0) 63 = 2
  · exact lop_2 hR hX hi h_2
  by_cases h_3 : and32 (X.getD i 0) 63 = 3
  · exact lop_3 hR hX hi h_3
  by_cases h_4 : and32 (X.getD i 0) 63 = 4
  · exact lop_4 hR hX hi h_4
  by_cases h_5 : and32 (X.getD i 0) 63 = 5
  · exact lop_5 hR hX hi h_5
  by_cases h_6 : and32 (X.getD i 0) 63 = 6
  · exact lop_6 hR hX hi h_6
  by_cases h_7 : and32 (X.getD i 0) 63 = 7
  · exact lop_7 hR hX hi h_7
  by_cases h_8 : and32 (X.getD i 0) 63 = 8
  · exact lop_8 hR hX hi h_8
  by_cases h_9 : and32 (X.getD i 0) 63 = 9
  · exact lop_9 hR hX hi h_9
  by_cases h_10 : and32 (X.getD i 0) 63 = 10
  · exact lop_10 hR hX hi h_10
  by_cases h_11 : and32 (X.getD i 0) 63 = 11
  · exact lop_11 hR hX hi h_11
  by_cases h_12 : and32 (X.getD i 0) 63 = 12
  · exact lop_12 hR hX hi h_12
  by_cases h_13 : and32 (X.getD i 0) 63 = 13
  · exact lop_13 hR hX hi h_13
  by_cases h_14 : and32 (X.getD i 0) 63 = 14
  · exact lop_14 hR hX hi h_14
  by_cases h_15 : and32 (X.getD i 0) 63 = 15
  · exact lop_15 hR hX hi h_15
  by_cases h_16 : and32 (X.getD i 0) 63 = 16
  · exact lop_16 hR hX hi h_16
  by_cases h_17 : and32 (X.getD i 0) 63 = 17
  · exact lop_17 hR hX hi h_17
  by_cases h_18 : and32 (X.getD i 0) 63 = 18
  · exact lop_18 hR hX hi h_18
  by_cases h_19 : and32 (X.getD i 0) 63 = 19
  · exact lop_19 hR hX hi h_19
  by_cases h_20 : and32 (X.getD i 0) 63 = 20
  · exact lop_20 hR hX hi h_20
  by_cases h_21 : and32 (X.getD i 0) 63 = 21
  · exact lop_21 hR hX hi h_21
  by_cases h_22 : and32 (X.getD i 0) 63 = 22
  · exact lop_22 hR hX hi h_22
  by_cases h_23 : and32 (X.getD i 0) 63 = 23
  · exact lop_23 hR hX hi h_23
  by_cases h_24 : and32 (X.getD i 0) 63 = 24
  · exact lop_24 hR hX hi h_24
  by_cases h_25 : and32 (X.getD i 0) 63 = 25
  · exact lop_25 hR hX hi h_25
  by_cases h_26 : and32 (X.getD i 0) 63 = 26
  · exact lop_26 hR hX hi h_26
  by_cases h_27 : and32 (X.getD i 0) 63 = 27
  · exact lop_27 hR hX hi h_27
  by_cases h_28 : and32 (X.getD i 0) 63 = 28
  · exact lop_28 hR hX hi h_28
  by_cases h_29 : and32 (X.getD i 0) 63 = 29
  · exact lop_29 hR hX hi h_29
  by_cases h_30 : and32 (X.getD i 0) 63 = 30
  · exact lop_30 hR hX hi h_30
  by_cases h_31 : and32 (X.getD i 0) 63 = 31
  · exact lop_31 hR hX hi h_31
  by_cases h_32 : and32 (X.getD i 0) 63 = 32
  · exact lop_32 hR hX hi h_32
  by_cases h_33 : and32 (X.getD i 0) 63 = 33
  · exact lop_33 hR hX hi h_33
  by_cases h_34 : and32 (X.getD i 0) 63 = 34
  · exact lop_34 hR hX hi h_34
  by_cases h_35 : and32 (X.getD i 0) 63 = 35
  · exact lop_35 hR hX hi h_35
  by_cases h_36 : and32 (X.getD i 0) 63 = 36
  · exact lop_36 hR hX hi h_36
  by_cases h_37 : and32 (X.getD i 0) 63 = 37
  · exact lop_37 hR hX hi h_37
  by_cases h_38 : and32 (X.getD i 0) 63 = 38
  · exact lop_38 hR hX hi h_38
  exact lop_39 hR hX hi (by omega)
theorem law_loop (hX : X.length < 2147483000) : ∀ (m i : Nat) (n t mi la g gm : ST), X.length - i ≤ m → i ≤ X.length → Rla n t mi la g gm → ∃ mem', ev X m_law 18 [vX 0, vR 0, vR 53, vI (i : Int)] [] (cpt (mpt mem gm n) n t mi la g) = some (some (vI 1), mem') := by
  intro m
  induction m with
  | zero =>
    intro i n t mi la g gm hm hi hR
    have e5 : w32 ((X.length : Int) - 5) = (X.length : Int) - 5 := w32_id (by omega) (by omega)
    have el : xlen X 0 = some (vI (X.length : Int)) := by
      unfold xlen
      rw [if_pos rfl, w32_id (by omega) (by omega)]
    refine ⟨cpt (mpt mem gm n) n t mi la g, ?_⟩
    rw [eL_law_18]
    simp only [eL_law_19, eL_law_19x, eL_law_20x, eL_law_20, eL_law_21, eL_law_22, eL_law_23, eL_law_1376, eL_law_1377a, eL_law_1377b, eL_law_1377c, evb_some, evm_some, evc_some, evc_none, gd, if_true, if_false, eq_self, and_self, and_true, true_and, ne_eq, not_false_eq_true, or_true, true_or, el, e5, show (X.length : Int) - 5 < (i : Int) by omega, ↓reduceIte]
  | succ m ih =>
    intro i n t mi la g gm hm hi hR
    have e5 : w32 ((X.length : Int) - 5) = (X.length : Int) - 5 := w32_id (by omega) (by omega)
    have el : xlen X 0 = some (vI (X.length : Int)) := by
      unfold xlen
      rw [if_pos rfl, w32_id (by omega) (by omega)]
    by_cases q : i + 5 ≤ X.length
    · obtain ⟨n', t', mi', la', g', gm', h1, h2⟩ := lop (mem := mem) hR hX q
      obtain ⟨mem', h3⟩ := ih (i + 5) n' t' mi' la' g' gm' (by omega) q h1
      refine ⟨mem', ?_⟩
      have e : w32 ((i : Int) + 5) = ((i + 5 : Nat) : Int) := by rw [w32_id (by omega) (by omega)]; omega
      rw [eL_law_18]
      simp only [eL_law_19, eL_law_19x, eL_law_20x, eL_law_20, eL_law_21, eL_law_22, eL_law_23, evb_some, evm_some, evc_some, evc_none, gd, if_true, if_false, eq_self, and_self, and_true, true_and, ne_eq, not_false_eq_true, or_true, true_or, el, e5, show ¬ (X.length : Int) - 5 < (i : Int) by omega, ↓reduceIte]
      rw [h2, eL_law_1370, e, eL_law_1373]
      exact h3
    · refine ⟨cpt (mpt mem gm n) n t mi la g, ?_⟩
      rw [eL_law_18]
      simp only [eL_law_19, eL_law_19x, eL_law_20x, eL_law_20, eL_law_21, eL_law_22, eL_law_23, eL_law_1376, eL_law_1377a, eL_law_1377b, eL_law_1377c, evb_some, evm_some, evc_some, evc_none, gd, if_true, if_false, eq_self, and_self, and_true, true_and, ne_eq, not_false_eq_true, or_true, true_or, el, e5, show (X.length : Int) - 5 < (i : Int) by omega, ↓reduceIte]
end LW
