/-! TEXT OF THE CLASS: letters, forms, the first misfit -/
section TX
variable {X : List Int} {mem M : AM} {n t mi la g gm d : ST} {l : List Int} {S : Nat}
theorem gX_y {α : Type} {j : Nat} (hj : 1 ≤ j ∧ j ≤ 8) {x : Option α} : gX j x = x := if_pos hj
theorem xf9 {j : Nat} (hj : 1 ≤ j ∧ j ≤ 8) : xfld 7 9 j = some (vX (j + 10)) := by
  unfold xfld
  rw [if_pos hj, if_pos ⟨rfl, rfl⟩]
theorem xf15 {j : Nat} (hj : 1 ≤ j ∧ j ≤ 8) : xfld 7 15 j = some (vI 0) := by
  unfold xfld
  rw [if_pos hj, if_neg (by decide), if_pos ⟨rfl, rfl⟩]
/-- how long a form is; its signs -/
def ln (j : Nat) : Nat := (sB (j + 10)).length
def ch (j i : Nat) : Int := (sB (j + 10)).getD i 0
theorem ln_tab : ∀ j : Fin 9, 1 ≤ j.val → w32 ((ln j.val : Nat) : Int) = ((ln j.val : Nat) : Int) ∧ shr32 ((ln j.val : Nat) : Int) 0 = ((ln j.val : Nat) : Int) ∧ 1 ≤ ln j.val ∧ ln j.val ≤ 6 := by decide +kernel
theorem ch_tabl : ∀ j : Fin 9, ∀ i : Fin 6, 1 ≤ j.val → i.val < ln j.val → i2c32 (and32 (ch j.val i.val) 255) = ch j.val i.val ∧ rok (some .char) (ch j.val i.val) = true := by decide +kernel
theorem c_tab : ∀ c : Fin 256, i2c32 (c.val : Int) = (c.val : Int) := by decide +kernel
theorem xln {j : Nat} (hj : 1 ≤ j ∧ j ≤ 8) : xlen X (j + 10) = some (vI ((ln j : Nat) : Int)) := by
  have h := (ln_tab ⟨j, by omega⟩ hj.1).1
  unfold xlen
  rw [if_neg (by omega), if_pos (by omega)]
  exact congrArg (fun z => some (vI z)) h
theorem xch {j i : Nat} (hj : 1 ≤ j ∧ j ≤ 8) (hi : i < ln j) : xget (j + 10) (i : Int) = some (vI (ch j i)) := by
  unfold xget
  rw [if_pos ⟨by omega, by omega, by omega, by unfold ln at hi; omega⟩, Int.toNat_natCast]
  rfl
theorem J_length {j : Nat} (hj : 1 ≤ j ∧ j ≤ 8) : ev X m_J0_length_8abf5 0 [vX j] [] M = some (some (vI ((ln j : Nat) : Int)), M) := by
  have h := (ln_tab ⟨j, by omega⟩ hj.1).2.1
  dsimp only at h
  simp only [eJ0_length_8abf5_0, eJ0_length_8abf5_0x, eJ0_length_8abf5_1, eJ0_length_8abf5_4x, eJ0_length_8abf5_4, eJ0_length_8abf5_5, eJ0_length_8abf5_5x, eJ0_length_8abf5_6, eJ0_length_8abf5_9, eJ0_length_8abf5_10, eJ0_coder_7d493_0, eJ0_coder_7d493_3, eJ0_coder_7d493_6, eJ0_coder_7d493_6x, eJ0_coder_7d493_7, eJ0_coder_7d493_10, eJ0_coder_7d493_13, eJ0_coder_7d493_14, evb_some, evm_some, evc_some, evc_none, gd, if_true, if_false, eq_self, and_self, and_true, true_and, ne_eq, not_false_eq_true, or_true, true_or, Int.reduceEq, Int.reduceLT, Int.reduceLE, ↓reduceIte, xf9 hj, xf15 hj, gX_y hj, xln hj, h, rok_y (show -128 ≤ (0 : Int) ∧ (0 : Int) ≤ 127 by decide)]
theorem J_charAt {j i : Nat} (hj : 1 ≤ j ∧ j ≤ 8) (hi : i < ln j) : ev X m_J0_charAt_5068e 0 [vX j, vI (i : Int)] [] M = some (some (vI (ch j i)), M) := by
  have h := (ln_tab ⟨j, by omega⟩ hj.1).2.2.2
  dsimp only at h
  have h2 := ch_tabl ⟨j, by omega⟩ ⟨i, by omega⟩ hj.1 hi
  dsimp only at h2
  simp only [eJ0_charAt_5068e_0, eJ0_charAt_5068e_0x, eJ0_charAt_5068e_1, eJ0_charAt_5068e_4, eJ0_charAt_5068e_7, eJ0_charAt_5068e_7x, eJ0_charAt_5068e_8, eJ0_charAt_5068e_11, eJ0_charAt_5068e_12, eJ0_charAt_5068e_15, eJ0_charAt_5068e_16, eJ0_charAt_5068e_16x, eJ0_charAt_5068e_17, eJ0_charAt_5068e_20, eJ0_charAt_5068e_24, eJ0_isLatin1_aae02_0, eJ0_isLatin1_aae02_3, eJ0_isLatin1_aae02_6, eJ0_isLatin1_aae02_6x, eJ0_isLatin1_aae02_7, eJ0_isLatin1_aae02_10, eJ0_isLatin1_aae02_13, eJ0_isLatin1_aae02_14, eJ0_isLatin1_aae02_17, eJ0_isLatin1_aae02_18a, eJ0_isLatin1_aae02_18b, eJ0_isLatin1_aae02_18c, eJ1_charAt_3b067_0, eJ1_charAt_3b067_1, eJ1_charAt_3b067_1x, eJ1_charAt_3b067_2x, eJ1_charAt_3b067_2, eJ1_charAt_3b067_3, eJ1_charAt_3b067_6, eJ1_charAt_3b067_6x, eJ1_charAt_3b067_7, eJ1_charAt_3b067_8, eJ1_charAt_3b067_9, eJ1_charAt_3b067_12, eJ1_charAt_3b067_13, eJ1_charAt_3b067_14, eJ0_checkIndex_df160_0, eJ0_checkIndex_df160_1, eJ0_checkIndex_df160_2, eJ0_checkIndex_df160_5, eJ0_checkIndex_df160_8, eJ0_checkIndex_df160_8r, eJ0_checkIndex_df160_9, eJ3_checkIndex_8e157_0, eJ3_checkIndex_8e157_1, eJ3_checkIndex_8e157_4, eJ3_checkIndex_8e157_5, eJ3_checkIndex_8e157_6, eJ3_checkIndex_8e157_9, eJ3_checkIndex_8e157_9x, eJ3_checkIndex_8e157_10, eJ3_checkIndex_8e157_11, eJ3_checkIndex_8e157_16, eJ3_checkIndex_8e157_17, evb_some, evm_some, evc_some, evc_none, gd, if_true, if_false, eq_self, and_self, and_true, true_and, ne_eq, not_false_eq_true, or_true, true_or, Int.reduceEq, Int.reduceLT, Int.reduceLE, ↓reduceIte, eJ0_coder_7d493_0, eJ0_coder_7d493_3, eJ0_coder_7d493_6, eJ0_coder_7d493_6x, eJ0_coder_7d493_7, eJ0_coder_7d493_10, eJ0_coder_7d493_13, eJ0_coder_7d493_14, xf9 hj, xf15 hj, gX_y hj, xln hj, xch hj hi, show ¬ (i : Int) < 0 by omega, show (i : Int) < ((ln j : Nat) : Int) by omega, h2.1, h2.2, rok_y (show -128 ≤ (0 : Int) ∧ (0 : Int) ≤ 127 by decide)]
/-- the KIND that a letter is of -/
def kof (b : Int) : Int := if b = 112 then 0 else if b = 115 then 1 else if b = 114 then 2 else if b = 98 then 3 else if b = 108 then 4 else if b = 99 then 5 else -1
def kxL (c : Int) : Nat → Nat → Int
  | 0, _ => -1
  | m + 1, k => if ch 8 k = i2b32 c then (k : Int) else kxL c m (k + 1)
theorem kx_tab : ∀ c : Fin 256, kxL (c.val : Int) 6 0 = kof (c.val : Int) := by decide +kernel
theorem kof_b (b : Int) : -1 ≤ kof b ∧ kof b ≤ 5 := by
  unfold kof
  (repeat' split) <;> omega
theorem J_indexOf {c : Nat} (hc : c < 256) : ev X m_J0_indexOf_0f7a4 0 [vX 8, vI (c : Int)] [] M = some (some (vI (kof (c : Int))), M) := by
  have h8 : 1 ≤ 8 ∧ 8 ≤ 8 := by decide
  have e8 : ((ln 8 : Nat) : Int) = 6 := by decide
  have k1 : ∀ (m k : Nat), k + m = 6 → ev X m_J1_indexOfChar_4cfef 7 [vX 18, vI (c : Int), vI 0, vI 6, vI (i2b32 (c : Int)), vI (k : Int)] [] M = some (some (vI (kxL (c : Int) m k)), M) := by
    intro m
    induction m with
    | zero =>
      intro k hk
      rw [eJ1_indexOfChar_4cfef_7]
      simp only [eJ1_indexOfChar_4cfef_0, eJ1_indexOfChar_4cfef_1, eJ1_indexOfChar_4cfef_2, eJ1_indexOfChar_4cfef_4, eJ1_indexOfChar_4cfef_5, eJ1_indexOfChar_4cfef_9, eJ1_indexOfChar_4cfef_10, eJ1_indexOfChar_4cfef_13, eJ1_indexOfChar_4cfef_13x, eJ1_indexOfChar_4cfef_14, eJ1_indexOfChar_4cfef_16, eJ1_indexOfChar_4cfef_17, eJ1_indexOfChar_4cfef_19, eJ1_indexOfChar_4cfef_22, eJ1_indexOfChar_4cfef_24, eJ1_indexOfChar_4cfef_25, eJ1_indexOfChar_4cfef_28, eJ1_indexOfChar_4cfef_31, eJ1_indexOfChar_4cfef_32, evb_some, evm_some, evc_some, evc_none, gd, if_true, if_false, eq_self, and_self, and_true, true_and, ne_eq, not_false_eq_true, or_true, true_or, Int.reduceEq, Int.reduceLT, Int.reduceLE, ↓reduceIte, show ¬ (k : Int) < 6 by omega, kxL]
    | succ m ih =>
      intro k hk
      have hx : xget 18 (k : Int) = some (vI (ch 8 k)) := xch (j := 8) h8 (by rw [show ln 8 = 6 by decide]; omega)
      rw [eJ1_indexOfChar_4cfef_7]
      by_cases q : ch 8 k = i2b32 (c : Int)
      · simp only [eJ1_indexOfChar_4cfef_0, eJ1_indexOfChar_4cfef_1, eJ1_indexOfChar_4cfef_2, eJ1_indexOfChar_4cfef_4, eJ1_indexOfChar_4cfef_5, eJ1_indexOfChar_4cfef_9, eJ1_indexOfChar_4cfef_10, eJ1_indexOfChar_4cfef_13, eJ1_indexOfChar_4cfef_13x, eJ1_indexOfChar_4cfef_14, eJ1_indexOfChar_4cfef_16, eJ1_indexOfChar_4cfef_17, eJ1_indexOfChar_4cfef_19, eJ1_indexOfChar_4cfef_22, eJ1_indexOfChar_4cfef_24, eJ1_indexOfChar_4cfef_25, eJ1_indexOfChar_4cfef_28, eJ1_indexOfChar_4cfef_31, eJ1_indexOfChar_4cfef_32, evb_some, evm_some, evc_some, evc_none, gd, if_true, if_false, eq_self, and_self, and_true, true_and, ne_eq, not_false_eq_true, or_true, true_or, Int.reduceEq, Int.reduceLT, Int.reduceLE, ↓reduceIte, show (k : Int) < 6 by omega, hx, kxL, if_pos q]
      · simp only [eJ1_indexOfChar_4cfef_0, eJ1_indexOfChar_4cfef_1, eJ1_indexOfChar_4cfef_2, eJ1_indexOfChar_4cfef_4, eJ1_indexOfChar_4cfef_5, eJ1_indexOfChar_4cfef_9, eJ1_indexOfChar_4cfef_10, eJ1_indexOfChar_4cfef_13, eJ1_indexOfChar_4cfef_13x, eJ1_indexOfChar_4cfef_14, eJ1_indexOfChar_4cfef_16, eJ1_indexOfChar_4cfef_17, eJ1_indexOfChar_4cfef_19, eJ1_indexOfChar_4cfef_22, eJ1_indexOfChar_4cfef_24, eJ1_indexOfChar_4cfef_25, eJ1_indexOfChar_4cfef_28, eJ1_indexOfChar_4cfef_31, eJ1_indexOfChar_4cfef_32, evb_some, evm_some, evc_some, evc_none, gd, if_true, if_false, eq_self, and_self, and_true, true_and, ne_eq, not_false_eq_true, or_true, true_or, Int.reduceEq, Int.reduceLT, Int.reduceLE, ↓reduceIte, show (k : Int) < 6 by omega, hx, kxL, if_neg q, w32_k1 (show k < 2147483647 by omega)]
        exact ih (k + 1) (by omega)
  have k2 : ev X m_J1_indexOfChar_4cfef 0 [vX 18, vI (c : Int), vI 0, vI 6, vS, vS] [] M = some (some (vI (kof (c : Int))), M) := by
    have h := k1 6 0 (by omega)
    rw [kx_tab ⟨c, hc⟩] at h
    exact Eq.trans (by simp only [eJ1_indexOfChar_4cfef_0, eJ1_indexOfChar_4cfef_1, eJ1_indexOfChar_4cfef_2, eJ1_indexOfChar_4cfef_4, eJ1_indexOfChar_4cfef_5]; rfl) h
  have hl : xlen X 18 = some (vI 6) := (xln (j := 8) h8).trans (by rw [e8])
  have hf : xfld 7 9 8 = some (vX 18) := xf9 (j := 8) h8
  have hln : ev X m_J0_length_8abf5 0 [vX 8] [] M = some (some (vI 6), M) := (J_length (j := 8) h8).trans (by rw [e8])
  simp only [eJ0_indexOf_0f7a4_0, eJ0_indexOf_0f7a4_0x, eJ0_indexOf_0f7a4_1, eJ0_indexOf_0f7a4_2, eJ0_indexOf_0f7a4_3, eJ0_indexOf_0f7a4_6, eJ0_indexOf_7cf53_0, eJ0_indexOf_7cf53_0x, eJ0_indexOf_7cf53_1, eJ0_indexOf_7cf53_4, eJ0_indexOf_7cf53_7, eJ0_indexOf_7cf53_7x, eJ0_indexOf_7cf53_8, eJ0_indexOf_7cf53_11, eJ0_indexOf_7cf53_12, eJ0_indexOf_7cf53_13, eJ0_indexOf_7cf53_13x, eJ0_indexOf_7cf53_14, eJ0_indexOf_7cf53_17, eJ0_indexOf_7cf53_20, eJ0_indexOf_7cf53_23, eJ0_indexOf_7cf53_23x, eJ0_indexOf_7cf53_24, eJ0_indexOf_7cf53_27, eJ0_indexOf_7cf53_28, eJ0_indexOf_7cf53_29, eJ0_indexOf_7cf53_29x, eJ0_indexOf_7cf53_30, eJ0_indexOf_7cf53_36, eJ0_isLatin1_aae02_0, eJ0_isLatin1_aae02_3, eJ0_isLatin1_aae02_6, eJ0_isLatin1_aae02_6x, eJ0_isLatin1_aae02_7, eJ0_isLatin1_aae02_10, eJ0_isLatin1_aae02_13, eJ0_isLatin1_aae02_14, eJ0_isLatin1_aae02_17, eJ0_isLatin1_aae02_18a, eJ0_isLatin1_aae02_18b, eJ0_isLatin1_aae02_18c, eJ1_indexOf_4cfef_0, eJ1_indexOf_4cfef_1, eJ1_indexOf_4cfef_4, eJ1_indexOf_4cfef_7, eJ1_indexOf_4cfef_8, eJ1_indexOf_4cfef_9, eJ1_indexOf_4cfef_10, eJ1_indexOf_4cfef_11, eJ1_indexOf_4cfef_14, eJ1_indexOf_4cfef_15, eJ1_indexOf_4cfef_16, eJ1_indexOf_4cfef_16x, eJ1_indexOf_4cfef_17x, eJ1_indexOf_4cfef_17, eJ1_indexOf_4cfef_18, eJ1_indexOf_4cfef_21, eJ1_indexOf_4cfef_22, eJ1_indexOf_4cfef_23, eJ1_indexOf_4cfef_24, eJ1_indexOf_4cfef_27, eJ1_indexOf_4cfef_28, eJ1_indexOf_4cfef_29, eJ1_indexOf_4cfef_29x, eJ1_indexOf_4cfef_30, eJ1_indexOf_4cfef_31, eJ1_indexOf_4cfef_32, eJ1_indexOf_4cfef_33, eJ1_indexOf_4cfef_36, eJ1_canEncode_9a6ad_0, eJ1_canEncode_9a6ad_1, eJ1_canEncode_9a6ad_4, eJ1_canEncode_9a6ad_5, eJ1_canEncode_9a6ad_8, eJ1_canEncode_9a6ad_11, eJ1_canEncode_9a6ad_12, eJ1_canEncode_9a6ad_15, eJ1_canEncode_9a6ad_16a, eJ1_canEncode_9a6ad_16b, eJ1_canEncode_9a6ad_16c, evb_some, evm_some, evc_some, evc_none, gd, if_true, if_false, eq_self, and_self, and_true, true_and, ne_eq, not_false_eq_true, or_true, true_or, Int.reduceEq, Int.reduceLT, Int.reduceLE, ↓reduceIte, hf, xf15 h8, gX_y h8, hln, hl, k2, show ¬ (c : Int) < 0 by omega, show ¬ (255 : Int) < (c : Int) by omega]
/-- the letter at a place; -1 behind the end -/
def lt (l : List Int) (S p : Nat) : Int := if p < S then l.getD p 0 else -1
theorem lt_b (hl : ∀ k : Nat, 0 ≤ l.getD k 0 ∧ l.getD k 0 ≤ 255) (p : Nat) : -1 ≤ lt l S p ∧ lt l S p ≤ 255 := by
  have h := hl p
  unfold lt
  split <;> omega
theorem T2_letterAt (hg : GL g) (hS : g.1 1 = (S : Int)) (h96 : S ≤ 96) {p : Nat} : ev X m_X2_letterAt 0 [vR 48, vI (p : Int)] [] (cpt mem n t mi la g) = some (some (vI (lt (g.2 1) S p)), cpt mem n t mi la g) := by
  unfold lt
  by_cases q : p < S
  · simp only [eX2_letterAt_0, eX2_letterAt_1, eX2_letterAt_4, eX2_letterAt_5, eX2_letterAt_5x, eX2_letterAt_6, eX2_letterAt_9, eX2_letterAt_12, eX2_letterAt_13, eX2_letterAt_13x, eX2_letterAt_14, eX2_letterAt_17x, eX2_letterAt_17, eX2_letterAt_18, eX2_letterAt_21, eX2_letterAt_21x, eX2_letterAt_22, eX2_letterAt_25, eX2_letterAt_26, eX2_letterAt_27, eX2_letterAt_30, eX2_letterAt_31, evb_some, evm_some, evc_some, evc_none, gd, if_true, if_false, eq_self, and_self, and_true, true_and, ne_eq, not_false_eq_true, or_true, true_or, cf0_0, cf0_1, cf0_2, cf0_3, cf0_4, cf0_5, cf0_6, cf23_0, cf23_1, cf23_2, cf23_3, cf48_0, cf48_1, cf50_0, cf50_1, cg0, cg23, cg48, cg50, cg1, cg12, cg24, cg35, Int.reduceEq, Int.reduceLT, Int.reduceLE, ↓reduceIte, ca46, ca47, ca49, ca51, ca52, cl46, cl47, cl49, cl51, cl52, hS, hg.2.1, show ¬ (p : Int) < 0 by omega, show (p : Int) < (S : Int) by omega, show w32 ((96 : Nat) : Int) = 96 by decide, show (p : Int) < 96 by omega, show p < 96 by omega, if_pos q]
  · simp only [eX2_letterAt_0, eX2_letterAt_1, eX2_letterAt_4, eX2_letterAt_5, eX2_letterAt_5x, eX2_letterAt_6, eX2_letterAt_9, eX2_letterAt_12, eX2_letterAt_13, eX2_letterAt_13x, eX2_letterAt_14, eX2_letterAt_17x, eX2_letterAt_17, eX2_letterAt_18, eX2_letterAt_21, eX2_letterAt_21x, eX2_letterAt_22, eX2_letterAt_25, eX2_letterAt_26, eX2_letterAt_27, eX2_letterAt_30, eX2_letterAt_31, evb_some, evm_some, evc_some, evc_none, gd, if_true, if_false, eq_self, and_self, and_true, true_and, ne_eq, not_false_eq_true, or_true, true_or, cf0_0, cf0_1, cf0_2, cf0_3, cf0_4, cf0_5, cf0_6, cf23_0, cf23_1, cf23_2, cf23_3, cf48_0, cf48_1, cf50_0, cf50_1, cg0, cg23, cg48, cg50, cg1, cg12, cg24, cg35, Int.reduceEq, Int.reduceLT, Int.reduceLE, ↓reduceIte, hS, show ¬ (p : Int) < 0 by omega, show ¬ (p : Int) < (S : Int) by omega, if_neg q]
/-- the form that a letter names -/
def fo (b : Int) : Nat := if b = 112 then 1 else if b = 104 then 2 else if b = 99 then 3 else if b = 115 then 4 else if b = 109 then 5 else if b = 100 then 6 else 7
theorem fo_b (b : Int) : 1 ≤ fo b ∧ fo b ≤ 8 := by
  unfold fo
  (repeat' split) <;> omega
theorem T2_formOf {b : Int} : ev X m_X2_formOf 0 [vI b] [] M = some (some (vX (fo b)), M) := by
  by_cases q1 : b = 112
  · subst q1; simp only [eX2_formOf_0, eX2_formOf_1, eX2_formOf_84, eX2_formOf_86, eX2_formOf_86x, eX2_formOf_87, eX2_formOf_89, eX2_formOf_89x, eX2_formOf_90, eX2_formOf_92, eX2_formOf_92x, eX2_formOf_93, eX2_formOf_95, eX2_formOf_95x, eX2_formOf_96, eX2_formOf_98, eX2_formOf_98x, eX2_formOf_99, eX2_formOf_101, eX2_formOf_101x, eX2_formOf_102, eX2_formOf_104, eX2_formOf_104x, evb_some, evm_some, evc_some, evc_none, gd, if_true, if_false, eq_self, and_self, and_true, true_and, ne_eq, not_false_eq_true, or_true, true_or, Int.reduceEq, Int.reduceLT, Int.reduceLE, ↓reduceIte, fo]
  by_cases q2 : b = 104
  · subst q2; simp only [eX2_formOf_0, eX2_formOf_1, eX2_formOf_84, eX2_formOf_86, eX2_formOf_86x, eX2_formOf_87, eX2_formOf_89, eX2_formOf_89x, eX2_formOf_90, eX2_formOf_92, eX2_formOf_92x, eX2_formOf_93, eX2_formOf_95, eX2_formOf_95x, eX2_formOf_96, eX2_formOf_98, eX2_formOf_98x, eX2_formOf_99, eX2_formOf_101, eX2_formOf_101x, eX2_formOf_102, eX2_formOf_104, eX2_formOf_104x, evb_some, evm_some, evc_some, evc_none, gd, if_true, if_false, eq_self, and_self, and_true, true_and, ne_eq, not_false_eq_true, or_true, true_or, Int.reduceEq, Int.reduceLT, Int.reduceLE, ↓reduceIte, fo]
  by_cases q3 : b = 99
  · subst q3; simp only [eX2_formOf_0, eX2_formOf_1, eX2_formOf_84, eX2_formOf_86, eX2_formOf_86x, eX2_formOf_87, eX2_formOf_89, eX2_formOf_89x, eX2_formOf_90, eX2_formOf_92, eX2_formOf_92x, eX2_formOf_93, eX2_formOf_95, eX2_formOf_95x, eX2_formOf_96, eX2_formOf_98, eX2_formOf_98x, eX2_formOf_99, eX2_formOf_101, eX2_formOf_101x, eX2_formOf_102, eX2_formOf_104, eX2_formOf_104x, evb_some, evm_some, evc_some, evc_none, gd, if_true, if_false, eq_self, and_self, and_true, true_and, ne_eq, not_false_eq_true, or_true, true_or, Int.reduceEq, Int.reduceLT, Int.reduceLE, ↓reduceIte, fo]
  by_cases q4 : b = 115
  · subst q4; simp only [eX2_formOf_0, eX2_formOf_1, eX2_formOf_84, eX2_formOf_86, eX2_formOf_86x, eX2_formOf_87, eX2_formOf_89, eX2_formOf_89x, eX2_formOf_90, eX2_formOf_92, eX2_formOf_92x, eX2_formOf_93, eX2_formOf_95, eX2_formOf_95x, eX2_formOf_96, eX2_formOf_98, eX2_formOf_98x, eX2_formOf_99, eX2_formOf_101, eX2_formOf_101x, eX2_formOf_102, eX2_formOf_104, eX2_formOf_104x, evb_some, evm_some, evc_some, evc_none, gd, if_true, if_false, eq_self, and_self, and_true, true_and, ne_eq, not_false_eq_true, or_true, true_or, Int.reduceEq, Int.reduceLT, Int.reduceLE, ↓reduceIte, fo]
  by_cases q5 : b = 109
  · subst q5; simp only [eX2_formOf_0, eX2_formOf_1, eX2_formOf_84, eX2_formOf_86, eX2_formOf_86x, eX2_formOf_87, eX2_formOf_89, eX2_formOf_89x, eX2_formOf_90, eX2_formOf_92, eX2_formOf_92x, eX2_formOf_93, eX2_formOf_95, eX2_formOf_95x, eX2_formOf_96, eX2_formOf_98, eX2_formOf_98x, eX2_formOf_99, eX2_formOf_101, eX2_formOf_101x, eX2_formOf_102, eX2_formOf_104, eX2_formOf_104x, evb_some, evm_some, evc_some, evc_none, gd, if_true, if_false, eq_self, and_self, and_true, true_and, ne_eq, not_false_eq_true, or_true, true_or, Int.reduceEq, Int.reduceLT, Int.reduceLE, ↓reduceIte, fo]
  by_cases q6 : b = 100
  · subst q6; simp only [eX2_formOf_0, eX2_formOf_1, eX2_formOf_84, eX2_formOf_86, eX2_formOf_86x, eX2_formOf_87, eX2_formOf_89, eX2_formOf_89x, eX2_formOf_90, eX2_formOf_92, eX2_formOf_92x, eX2_formOf_93, eX2_formOf_95, eX2_formOf_95x, eX2_formOf_96, eX2_formOf_98, eX2_formOf_98x, eX2_formOf_99, eX2_formOf_101, eX2_formOf_101x, eX2_formOf_102, eX2_formOf_104, eX2_formOf_104x, evb_some, evm_some, evc_some, evc_none, gd, if_true, if_false, eq_self, and_self, and_true, true_and, ne_eq, not_false_eq_true, or_true, true_or, Int.reduceEq, Int.reduceLT, Int.reduceLE, ↓reduceIte, fo]
  have e : fo b = 7 := by
    unfold fo
    rw [if_neg q1, if_neg q2, if_neg q3, if_neg q4, if_neg q5, if_neg q6]
  rw [e]
  simp only [eX2_formOf_0, eX2_formOf_1, eX2_formOf_84, eX2_formOf_86, eX2_formOf_86x, eX2_formOf_87, eX2_formOf_89, eX2_formOf_89x, eX2_formOf_90, eX2_formOf_92, eX2_formOf_92x, eX2_formOf_93, eX2_formOf_95, eX2_formOf_95x, eX2_formOf_96, eX2_formOf_98, eX2_formOf_98x, eX2_formOf_99, eX2_formOf_101, eX2_formOf_101x, eX2_formOf_102, eX2_formOf_104, eX2_formOf_104x, if_neg q1, if_neg q2, if_neg q3, if_neg q4, if_neg q5, if_neg q6]
  (repeat' split) <;> rfl
theorem T2_lengthAt (hg : GL g) (hS : g.1 1 = (S : Int)) (h96 : S ≤ 96) {p : Nat} : ev X m_X2_lengthAt 0 [vR 48, vI (p : Int)] [] (cpt mem n t mi la g) = some (some (vI ((ln (fo (lt (g.2 1) S p)) : Nat) : Int)), cpt mem n t mi la g) := by
  simp only [eX2_lengthAt_0, eX2_lengthAt_0x, eX2_lengthAt_1, eX2_lengthAt_2, eX2_lengthAt_5, eX2_lengthAt_8, eX2_lengthAt_11, evb_some, evm_some, evc_some, evc_none, gd, if_true, if_false, eq_self, and_self, and_true, true_and, ne_eq, not_false_eq_true, or_true, true_or, cf0_0, cf0_1, cf0_2, cf0_3, cf0_4, cf0_5, cf0_6, cf23_0, cf23_1, cf23_2, cf23_3, cf48_0, cf48_1, cf50_0, cf50_1, cg0, cg23, cg48, cg50, cg1, cg12, cg24, cg35, Int.reduceEq, Int.reduceLT, Int.reduceLE, ↓reduceIte, T2_letterAt hg hS h96, T2_formOf, gX_y (fo_b _), J_length (fo_b _)]
/-- whether a letter fits a sign -/
def fitB (s b : Int) : Bool := if s = 75 then decide (0 ≤ b ∧ 0 ≤ kof b) else if s = 35 then decide (48 ≤ b ∧ b ≤ 57) else decide (b = s ∧ s ≠ 63)
theorem T2_fits {s b : Int} (hb : -1 ≤ b ∧ b ≤ 255) : ev X m_X2_fits 0 [vI s, vI b] [] M = some (some (vI (if fitB s b = true then 1 else 0)), M) := by
  unfold fitB
  by_cases q1 : s = 75
  · rw [if_pos q1]
    by_cases q2 : b < 0
    · rw [if_neg (by simp; omega)]
      simp only [eX2_fits_0, eX2_fits_1, eX2_fits_3, eX2_fits_6, eX2_fits_7, eX2_fits_10, eX2_fits_12, eX2_fits_13, eX2_fits_14, eX2_fits_17, eX2_fits_20, eX2_fits_21, eX2_fits_24, eX2_fits_25a, eX2_fits_25b, eX2_fits_25c, eX2_fits_26, eX2_fits_27, eX2_fits_29, eX2_fits_32, eX2_fits_33, eX2_fits_35, eX2_fits_38, eX2_fits_39, eX2_fits_41, eX2_fits_44, eX2_fits_45, eX2_fits_48, eX2_fits_49a, eX2_fits_49b, eX2_fits_49c, eX2_fits_50, eX2_fits_51, eX2_fits_52, eX2_fits_55, eX2_fits_56, eX2_fits_58, eX2_fits_61, eX2_fits_62, eX2_fits_65, eX2_fits_66a, eX2_fits_66b, eX2_fits_66c, evb_some, evm_some, evc_some, evc_none, gd, if_true, if_false, eq_self, and_self, and_true, true_and, ne_eq, not_false_eq_true, or_true, true_or, Int.reduceEq, Int.reduceLT, Int.reduceLE, ↓reduceIte, q1, q2]
    · obtain ⟨c, rfl⟩ := n2i (show 0 ≤ b by omega)
      have hi := J_indexOf (X := X) (M := M) (c := c) (by omega)
      have hc : i2c32 (c : Int) = (c : Int) := c_tab ⟨c, by omega⟩
      by_cases q3 : kof (c : Int) < 0
      · rw [if_neg (by simp; omega)]
        simp only [eX2_fits_0, eX2_fits_1, eX2_fits_3, eX2_fits_6, eX2_fits_7, eX2_fits_10, eX2_fits_12, eX2_fits_13, eX2_fits_14, eX2_fits_17, eX2_fits_20, eX2_fits_21, eX2_fits_24, eX2_fits_25a, eX2_fits_25b, eX2_fits_25c, eX2_fits_26, eX2_fits_27, eX2_fits_29, eX2_fits_32, eX2_fits_33, eX2_fits_35, eX2_fits_38, eX2_fits_39, eX2_fits_41, eX2_fits_44, eX2_fits_45, eX2_fits_48, eX2_fits_49a, eX2_fits_49b, eX2_fits_49c, eX2_fits_50, eX2_fits_51, eX2_fits_52, eX2_fits_55, eX2_fits_56, eX2_fits_58, eX2_fits_61, eX2_fits_62, eX2_fits_65, eX2_fits_66a, eX2_fits_66b, eX2_fits_66c, evb_some, evm_some, evc_some, evc_none, gd, if_true, if_false, eq_self, and_self, and_true, true_and, ne_eq, not_false_eq_true, or_true, true_or, Int.reduceEq, Int.reduceLT, Int.reduceLE, ↓reduceIte, q1, q2, hc, gX_y (show 1 ≤ 8 ∧ 8 ≤ 8 by decide), hi, q3]
      · rw [if_pos (by simp; omega)]
        simp only [eX2_fits_0, eX2_fits_1, eX2_fits_3, eX2_fits_6, eX2_fits_7, eX2_fits_10, eX2_fits_12, eX2_fits_13, eX2_fits_14, eX2_fits_17, eX2_fits_20, eX2_fits_21, eX2_fits_24, eX2_fits_25a, eX2_fits_25b, eX2_fits_25c, eX2_fits_26, eX2_fits_27, eX2_fits_29, eX2_fits_32, eX2_fits_33, eX2_fits_35, eX2_fits_38, eX2_fits_39, eX2_fits_41, eX2_fits_44, eX2_fits_45, eX2_fits_48, eX2_fits_49a, eX2_fits_49b, eX2_fits_49c, eX2_fits_50, eX2_fits_51, eX2_fits_52, eX2_fits_55, eX2_fits_56, eX2_fits_58, eX2_fits_61, eX2_fits_62, eX2_fits_65, eX2_fits_66a, eX2_fits_66b, eX2_fits_66c, evb_some, evm_some, evc_some, evc_none, gd, if_true, if_false, eq_self, and_self, and_true, true_and, ne_eq, not_false_eq_true, or_true, true_or, Int.reduceEq, Int.reduceLT, Int.reduceLE, ↓reduceIte, q1, q2, hc, gX_y (show 1 ≤ 8 ∧ 8 ≤ 8 by decide), hi, q3]
  · rw [if_neg q1]
    by_cases q2 : s = 35
    · rw [if_pos q2]
      by_cases q3 : b < 48
      · rw [if_neg (by simp; omega)]
        simp only [eX2_fits_0, eX2_fits_1, eX2_fits_3, eX2_fits_6, eX2_fits_7, eX2_fits_10, eX2_fits_12, eX2_fits_13, eX2_fits_14, eX2_fits_17, eX2_fits_20, eX2_fits_21, eX2_fits_24, eX2_fits_25a, eX2_fits_25b, eX2_fits_25c, eX2_fits_26, eX2_fits_27, eX2_fits_29, eX2_fits_32, eX2_fits_33, eX2_fits_35, eX2_fits_38, eX2_fits_39, eX2_fits_41, eX2_fits_44, eX2_fits_45, eX2_fits_48, eX2_fits_49a, eX2_fits_49b, eX2_fits_49c, eX2_fits_50, eX2_fits_51, eX2_fits_52, eX2_fits_55, eX2_fits_56, eX2_fits_58, eX2_fits_61, eX2_fits_62, eX2_fits_65, eX2_fits_66a, eX2_fits_66b, eX2_fits_66c, evb_some, evm_some, evc_some, evc_none, gd, if_true, if_false, eq_self, and_self, and_true, true_and, ne_eq, not_false_eq_true, or_true, true_or, Int.reduceEq, Int.reduceLT, Int.reduceLE, ↓reduceIte, q1, q2, q3]
      · by_cases q4 : 57 < b
        · rw [if_neg (by simp; omega)]
          simp only [eX2_fits_0, eX2_fits_1, eX2_fits_3, eX2_fits_6, eX2_fits_7, eX2_fits_10, eX2_fits_12, eX2_fits_13, eX2_fits_14, eX2_fits_17, eX2_fits_20, eX2_fits_21, eX2_fits_24, eX2_fits_25a, eX2_fits_25b, eX2_fits_25c, eX2_fits_26, eX2_fits_27, eX2_fits_29, eX2_fits_32, eX2_fits_33, eX2_fits_35, eX2_fits_38, eX2_fits_39, eX2_fits_41, eX2_fits_44, eX2_fits_45, eX2_fits_48, eX2_fits_49a, eX2_fits_49b, eX2_fits_49c, eX2_fits_50, eX2_fits_51, eX2_fits_52, eX2_fits_55, eX2_fits_56, eX2_fits_58, eX2_fits_61, eX2_fits_62, eX2_fits_65, eX2_fits_66a, eX2_fits_66b, eX2_fits_66c, evb_some, evm_some, evc_some, evc_none, gd, if_true, if_false, eq_self, and_self, and_true, true_and, ne_eq, not_false_eq_true, or_true, true_or, Int.reduceEq, Int.reduceLT, Int.reduceLE, ↓reduceIte, q1, q2, q3, q4]
        · rw [if_pos (by simp; omega)]
          simp only [eX2_fits_0, eX2_fits_1, eX2_fits_3, eX2_fits_6, eX2_fits_7, eX2_fits_10, eX2_fits_12, eX2_fits_13, eX2_fits_14, eX2_fits_17, eX2_fits_20, eX2_fits_21, eX2_fits_24, eX2_fits_25a, eX2_fits_25b, eX2_fits_25c, eX2_fits_26, eX2_fits_27, eX2_fits_29, eX2_fits_32, eX2_fits_33, eX2_fits_35, eX2_fits_38, eX2_fits_39, eX2_fits_41, eX2_fits_44, eX2_fits_45, eX2_fits_48, eX2_fits_49a, eX2_fits_49b, eX2_fits_49c, eX2_fits_50, eX2_fits_51, eX2_fits_52, eX2_fits_55, eX2_fits_56, eX2_fits_58, eX2_fits_61, eX2_fits_62, eX2_fits_65, eX2_fits_66a, eX2_fits_66b, eX2_fits_66c, evb_some, evm_some, evc_some, evc_none, gd, if_true, if_false, eq_self, and_self, and_true, true_and, ne_eq, not_false_eq_true, or_true, true_or, Int.reduceEq, Int.reduceLT, Int.reduceLE, ↓reduceIte, q1, q2, q3, q4]
    · rw [if_neg q2]
      by_cases q3 : b = s
      · by_cases q4 : s = 63
        · rw [if_neg (by simp; omega)]
          simp only [eX2_fits_0, eX2_fits_1, eX2_fits_3, eX2_fits_6, eX2_fits_7, eX2_fits_10, eX2_fits_12, eX2_fits_13, eX2_fits_14, eX2_fits_17, eX2_fits_20, eX2_fits_21, eX2_fits_24, eX2_fits_25a, eX2_fits_25b, eX2_fits_25c, eX2_fits_26, eX2_fits_27, eX2_fits_29, eX2_fits_32, eX2_fits_33, eX2_fits_35, eX2_fits_38, eX2_fits_39, eX2_fits_41, eX2_fits_44, eX2_fits_45, eX2_fits_48, eX2_fits_49a, eX2_fits_49b, eX2_fits_49c, eX2_fits_50, eX2_fits_51, eX2_fits_52, eX2_fits_55, eX2_fits_56, eX2_fits_58, eX2_fits_61, eX2_fits_62, eX2_fits_65, eX2_fits_66a, eX2_fits_66b, eX2_fits_66c, evb_some, evm_some, evc_some, evc_none, gd, if_true, if_false, eq_self, and_self, and_true, true_and, ne_eq, not_false_eq_true, or_true, true_or, Int.reduceEq, Int.reduceLT, Int.reduceLE, ↓reduceIte, q1, q2, q3, q4]
        · rw [if_pos (by simp; omega)]
          simp only [eX2_fits_0, eX2_fits_1, eX2_fits_3, eX2_fits_6, eX2_fits_7, eX2_fits_10, eX2_fits_12, eX2_fits_13, eX2_fits_14, eX2_fits_17, eX2_fits_20, eX2_fits_21, eX2_fits_24, eX2_fits_25a, eX2_fits_25b, eX2_fits_25c, eX2_fits_26, eX2_fits_27, eX2_fits_29, eX2_fits_32, eX2_fits_33, eX2_fits_35, eX2_fits_38, eX2_fits_39, eX2_fits_41, eX2_fits_44, eX2_fits_45, eX2_fits_48, eX2_fits_49a, eX2_fits_49b, eX2_fits_49c, eX2_fits_50, eX2_fits_51, eX2_fits_52, eX2_fits_55, eX2_fits_56, eX2_fits_58, eX2_fits_61, eX2_fits_62, eX2_fits_65, eX2_fits_66a, eX2_fits_66b, eX2_fits_66c, evb_some, evm_some, evc_some, evc_none, gd, if_true, if_false, eq_self, and_self, and_true, true_and, ne_eq, not_false_eq_true, or_true, true_or, Int.reduceEq, Int.reduceLT, Int.reduceLE, ↓reduceIte, q1, q2, q3, q4]
      · rw [if_neg (by simp; omega)]
        simp only [eX2_fits_0, eX2_fits_1, eX2_fits_3, eX2_fits_6, eX2_fits_7, eX2_fits_10, eX2_fits_12, eX2_fits_13, eX2_fits_14, eX2_fits_17, eX2_fits_20, eX2_fits_21, eX2_fits_24, eX2_fits_25a, eX2_fits_25b, eX2_fits_25c, eX2_fits_26, eX2_fits_27, eX2_fits_29, eX2_fits_32, eX2_fits_33, eX2_fits_35, eX2_fits_38, eX2_fits_39, eX2_fits_41, eX2_fits_44, eX2_fits_45, eX2_fits_48, eX2_fits_49a, eX2_fits_49b, eX2_fits_49c, eX2_fits_50, eX2_fits_51, eX2_fits_52, eX2_fits_55, eX2_fits_56, eX2_fits_58, eX2_fits_61, eX2_fits_62, eX2_fits_65, eX2_fits_66a, eX2_fits_66b, eX2_fits_66c, evb_some, evm_some, evc_some, evc_none, gd, if_true, if_false, eq_self, and_self, and_true, true_and, ne_eq, not_false_eq_true, or_true, true_or, Int.reduceEq, Int.reduceLT, Int.reduceLE, ↓reduceIte, q1, q2, q3]
/-- the first misfit inside a statement -/
def msL (l : List Int) (S j p : Nat) : Nat → Nat → Option Nat
  | 0, _ => none
  | m + 1, i => if fitB (ch j i) (lt l S (p + i)) = true then msL l S j p m (i + 1) else some i
def lnf (l : List Int) (S p : Nat) : Nat := ln (fo (lt l S p))
def mis (l : List Int) (S p : Nat) : Option Nat := msL l S (fo (lt l S p)) p (lnf l S p) 0
/-- where statements stand, as long as they fit -/
def pl (l : List Int) (S : Nat) : Nat → Nat
  | 0 => 0
  | k + 1 => pl l S k + lnf l S (pl l S k)
/-- reading the text: the first misfit, or how many statements -/
def prS (l : List Int) (S : Nat) : Nat → Nat → Option Nat × Nat
  | 0, s => (none, s)
  | f + 1, s => match mis l S (pl l S s) with
    | some i => (some (pl l S s + i), s)
    | none => if pl l S (s + 1) < S then prS l S f (s + 1) else (none, s + 1)
theorem mis_len {p : Nat} (h : mis l S p = none) : 4 ≤ lnf l S p ∧ lnf l S p ≤ 6 ∧ fo (lt l S p) ≠ 7 := by
  have hf := fo_b (lt l S p)
  unfold mis lnf at *
  generalize fo (lt l S p) = j at *
  have h7 : j ≠ 7 := fun e => by
    subst e
    have h2 : msL l S 7 p 1 0 = none := h
    unfold msL at h2
    rw [if_neg (by rw [show ch 7 0 = 63 by decide]; unfold fitB; simp)] at h2
    exact absurd h2 (by simp)
  rcases (show j = 1 ∨ j = 2 ∨ j = 3 ∨ j = 4 ∨ j = 5 ∨ j = 6 ∨ j = 8 by omega) with rfl | rfl | rfl | rfl | rfl | rfl | rfl <;> exact ⟨by decide, by decide, h7⟩
theorem lnf_b (p : Nat) : 1 ≤ lnf l S p ∧ lnf l S p ≤ 6 := by
  have hf := fo_b (lt l S p)
  have h := ln_tab ⟨fo (lt l S p), by omega⟩ hf.1
  unfold lnf
  exact ⟨h.2.2.1, h.2.2.2⟩
theorem pl_ge : ∀ s : Nat, (∀ k, k < s → mis l S (pl l S k) = none) → 4 * s ≤ pl l S s
  | 0, _ => Nat.zero_le _
  | s + 1, h => by
    have h1 := pl_ge s (fun k hk => h k (by omega))
    have h2 := mis_len (h s (by omega))
    show 4 * (s + 1) ≤ pl l S s + lnf l S (pl l S s)
    omega
theorem T2_firstMisfit (hg : GL g) (hS : g.1 1 = (S : Int)) (h96 : S ≤ 96) (hl : ∀ k : Nat, 0 ≤ (g.2 1).getD k 0 ∧ (g.2 1).getD k 0 ≤ 255) : ev X m_X2_firstMisfit 0 [vR 48, vS, vS, vS] [] (cpt mem n t mi la g) = some (some (vI (match (prS (g.2 1) S 30 0).1 with
    | some x => (x : Int)
    | none => -1)), cpt mem n t mi la g) := by
  have inn : ∀ (p j : Nat), p ≤ 200 → 1 ≤ j ∧ j ≤ 8 → ∀ (m i : Nat), i + m = ln j → (match msL (g.2 1) S j p m i with
      | some x => ev X m_X2_firstMisfit 13 [vR 48, vI (p : Int), vX j, vI (i : Int)] [] (cpt mem n t mi la g) = some (some (vI ((p + x : Nat) : Int)), cpt mem n t mi la g)
      | none => ev X m_X2_firstMisfit 13 [vR 48, vI (p : Int), vX j, vI (i : Int)] [] (cpt mem n t mi la g) = ev X m_X2_firstMisfit 49 [vR 48, vI (p : Int), vX j, vI ((ln j : Nat) : Int)] [] (cpt mem n t mi la g)) := by
    intro p j hp hj m
    have hlj := ln_tab ⟨j, by omega⟩ hj.1
    dsimp only at hlj
    induction m with
    | zero =>
      intro i hi
      unfold msL
      dsimp only
      rw [eX2_firstMisfit_13, show i = ln j by omega]
      simp only [eX2_firstMisfit_14, eX2_firstMisfit_14x, eX2_firstMisfit_15, eX2_firstMisfit_18, eX2_firstMisfit_21, eX2_firstMisfit_21x, eX2_firstMisfit_22, eX2_firstMisfit_23, eX2_firstMisfit_26, eX2_firstMisfit_26x, eX2_firstMisfit_27, eX2_firstMisfit_28, eX2_firstMisfit_29, eX2_firstMisfit_30, eX2_firstMisfit_33, eX2_firstMisfit_36, eX2_firstMisfit_39, eX2_firstMisfit_40, eX2_firstMisfit_41, eX2_firstMisfit_42, eX2_firstMisfit_43, eX2_firstMisfit_46, evb_some, evm_some, evc_some, evc_none, gd, if_true, if_false, eq_self, and_self, and_true, true_and, ne_eq, not_false_eq_true, or_true, true_or, cf0_0, cf0_1, cf0_2, cf0_3, cf0_4, cf0_5, cf0_6, cf23_0, cf23_1, cf23_2, cf23_3, cf48_0, cf48_1, cf50_0, cf50_1, cg0, cg23, cg48, cg50, cg1, cg12, cg24, cg35, Int.reduceEq, Int.reduceLT, Int.reduceLE, ↓reduceIte, gX_y hj, J_length hj, show ¬ ((ln j : Nat) : Int) < ((ln j : Nat) : Int) by omega]
    | succ m ih =>
      intro i hi
      have ih2 := ih (i + 1) (by omega)
      have hpi : w32 ((p : Int) + (i : Int)) = ((p + i : Nat) : Int) := by rw [w32_id (by omega) (by omega)]; omega
      have c1 : (i : Int) < ((ln j : Nat) : Int) := by omega
      have hfit := T2_fits (X := X) (M := cpt mem n t mi la g) (s := ch j i) (lt_b (S := S) hl (p + i))
      unfold msL
      by_cases q : fitB (ch j i) (lt (g.2 1) S (p + i)) = true
      · rw [if_pos q] at hfit ⊢
        have e : ev X m_X2_firstMisfit 13 [vR 48, vI (p : Int), vX j, vI (i : Int)] [] (cpt mem n t mi la g) = ev X m_X2_firstMisfit 13 [vR 48, vI (p : Int), vX j, vI ((i + 1 : Nat) : Int)] [] (cpt mem n t mi la g) := by
          rw [eX2_firstMisfit_13]
          simp only [eX2_firstMisfit_14, eX2_firstMisfit_14x, eX2_firstMisfit_15, eX2_firstMisfit_18, eX2_firstMisfit_21, eX2_firstMisfit_21x, eX2_firstMisfit_22, eX2_firstMisfit_23, eX2_firstMisfit_26, eX2_firstMisfit_26x, eX2_firstMisfit_27, eX2_firstMisfit_28, eX2_firstMisfit_29, eX2_firstMisfit_30, eX2_firstMisfit_33, eX2_firstMisfit_36, eX2_firstMisfit_39, eX2_firstMisfit_40, eX2_firstMisfit_41, eX2_firstMisfit_42, eX2_firstMisfit_43, eX2_firstMisfit_46, evb_some, evm_some, evc_some, evc_none, gd, if_true, if_false, eq_self, and_self, and_true, true_and, ne_eq, not_false_eq_true, or_true, true_or, cf0_0, cf0_1, cf0_2, cf0_3, cf0_4, cf0_5, cf0_6, cf23_0, cf23_1, cf23_2, cf23_3, cf48_0, cf48_1, cf50_0, cf50_1, cg0, cg23, cg48, cg50, cg1, cg12, cg24, cg35, Int.reduceEq, Int.reduceLT, Int.reduceLE, ↓reduceIte, gX_y hj, J_length hj, c1, J_charAt hj (show i < ln j by omega), hpi, T2_letterAt hg hS h96, hfit, w32_k1 (show i < 2147483647 by omega)]
        rw [e]
        exact ih2
      · rw [if_neg q] at hfit ⊢
        dsimp only
        rw [eX2_firstMisfit_13]
        simp only [eX2_firstMisfit_14, eX2_firstMisfit_14x, eX2_firstMisfit_15, eX2_firstMisfit_18, eX2_firstMisfit_21, eX2_firstMisfit_21x, eX2_firstMisfit_22, eX2_firstMisfit_23, eX2_firstMisfit_26, eX2_firstMisfit_26x, eX2_firstMisfit_27, eX2_firstMisfit_28, eX2_firstMisfit_29, eX2_firstMisfit_30, eX2_firstMisfit_33, eX2_firstMisfit_36, eX2_firstMisfit_39, eX2_firstMisfit_40, eX2_firstMisfit_41, eX2_firstMisfit_42, eX2_firstMisfit_43, eX2_firstMisfit_46, evb_some, evm_some, evc_some, evc_none, gd, if_true, if_false, eq_self, and_self, and_true, true_and, ne_eq, not_false_eq_true, or_true, true_or, cf0_0, cf0_1, cf0_2, cf0_3, cf0_4, cf0_5, cf0_6, cf23_0, cf23_1, cf23_2, cf23_3, cf48_0, cf48_1, cf50_0, cf50_1, cg0, cg23, cg48, cg50, cg1, cg12, cg24, cg35, Int.reduceEq, Int.reduceLT, Int.reduceLE, ↓reduceIte, gX_y hj, J_length hj, c1, J_charAt hj (show i < ln j by omega), hpi, T2_letterAt hg hS h96, hfit]
  have key : ∀ (f s : Nat) (z1 z2 : AV), s + f = 30 → (∀ k, k < s → mis (g.2 1) S (pl (g.2 1) S k) = none) → (s = 0 ∨ pl (g.2 1) S s < S) → ev X m_X2_firstMisfit 2 [vR 48, vI ((pl (g.2 1) S s : Nat) : Int), z1, z2] [] (cpt mem n t mi la g) = some (some (vI (match (prS (g.2 1) S f s).1 with
      | some x => (x : Int)
      | none => -1)), cpt mem n t mi la g) := by
    intro f
    induction f with
    | zero =>
      intro s z1 z2 hs hgd hp
      have h1 := pl_ge s hgd
      omega
    | succ f ih =>
      intro s z1 z2 hs hgd hp
      have hpb : pl (g.2 1) S s ≤ 96 := by
        rcases hp with rfl | hp
        · exact Nat.zero_le _
        · omega
      have hfo := fo_b (lt (g.2 1) S (pl (g.2 1) S s))
      have hin := inn (pl (g.2 1) S s) (fo (lt (g.2 1) S (pl (g.2 1) S s))) (by omega) hfo (ln (fo (lt (g.2 1) S (pl (g.2 1) S s)))) 0 (by omega)
      rw [show msL (g.2 1) S (fo (lt (g.2 1) S (pl (g.2 1) S s))) (pl (g.2 1) S s) (ln (fo (lt (g.2 1) S (pl (g.2 1) S s)))) 0 = mis (g.2 1) S (pl (g.2 1) S s) from rfl] at hin
      have h0 : ev X m_X2_firstMisfit 2 [vR 48, vI ((pl (g.2 1) S s : Nat) : Int), z1, z2] [] (cpt mem n t mi la g) = ev X m_X2_firstMisfit 13 [vR 48, vI ((pl (g.2 1) S s : Nat) : Int), vX (fo (lt (g.2 1) S (pl (g.2 1) S s))), vI ((0 : Nat) : Int)] [] (cpt mem n t mi la g) := by
        rw [eX2_firstMisfit_2]
        simp only [eX2_firstMisfit_3, eX2_firstMisfit_4, eX2_firstMisfit_7, eX2_firstMisfit_10, eX2_firstMisfit_10x, eX2_firstMisfit_11, eX2_firstMisfit_12, evb_some, evm_some, evc_some, evc_none, gd, if_true, if_false, eq_self, and_self, and_true, true_and, ne_eq, not_false_eq_true, or_true, true_or, cf0_0, cf0_1, cf0_2, cf0_3, cf0_4, cf0_5, cf0_6, cf23_0, cf23_1, cf23_2, cf23_3, cf48_0, cf48_1, cf50_0, cf50_1, cg0, cg23, cg48, cg50, cg1, cg12, cg24, cg35, Int.reduceEq, Int.reduceLT, Int.reduceLE, ↓reduceIte, T2_letterAt hg hS h96, T2_formOf]
        rfl
      rw [h0]
      unfold prS
      cases hms : mis (g.2 1) S (pl (g.2 1) S s) with
      | some i =>
        rw [hms] at hin
        exact hin
      | none =>
        rw [hms] at hin
        dsimp only at hin ⊢
        rw [hin]
        have hlb := lnf_b (l := g.2 1) (S := S) (pl (g.2 1) S s)
        have e1 : (if (1 : Int) < ((ln (fo (lt (g.2 1) S (pl (g.2 1) S s))) : Nat) : Int) then ((ln (fo (lt (g.2 1) S (pl (g.2 1) S s))) : Nat) : Int) else 1) = ((lnf (g.2 1) S (pl (g.2 1) S s) : Nat) : Int) := mx1 hlb.1
        have e2 : w32 (((pl (g.2 1) S s : Nat) : Int) + ((lnf (g.2 1) S (pl (g.2 1) S s) : Nat) : Int)) = ((pl (g.2 1) S (s + 1) : Nat) : Int) := by
          rw [w32_id (by omega) (by omega)]
          show _ = ((pl (g.2 1) S s + lnf (g.2 1) S (pl (g.2 1) S s) : Nat) : Int)
          omega
        by_cases q : pl (g.2 1) S (s + 1) < S
        · rw [if_pos q]
          simp only [eX2_firstMisfit_49, eX2_firstMisfit_50, eX2_firstMisfit_51, eX2_firstMisfit_51x, eX2_firstMisfit_52, eX2_firstMisfit_55, eX2_firstMisfit_58, eX2_firstMisfit_59, eX2_firstMisfit_60, eX2_firstMisfit_61, eX2_firstMisfit_61x, eX2_firstMisfit_62, eX2_firstMisfit_65, eX2_firstMisfit_68, eX2_firstMisfit_69, evb_some, evm_some, evc_some, evc_none, gd, if_true, if_false, eq_self, and_self, and_true, true_and, ne_eq, not_false_eq_true, or_true, true_or, cf0_0, cf0_1, cf0_2, cf0_3, cf0_4, cf0_5, cf0_6, cf23_0, cf23_1, cf23_2, cf23_3, cf48_0, cf48_1, cf50_0, cf50_1, cg0, cg23, cg48, cg50, cg1, cg12, cg24, cg35, Int.reduceEq, Int.reduceLT, Int.reduceLE, ↓reduceIte, gX_y hfo, J_length hfo, e1, e2, hS, show ((pl (g.2 1) S (s + 1) : Nat) : Int) < (S : Int) by omega]
          refine ih (s + 1) _ _ (by omega) (fun k hk => ?_) (Or.inr q)
          by_cases e : k = s
          · rw [e]; exact hms
          · exact hgd k (by omega)
        · rw [if_neg q]
          simp only [eX2_firstMisfit_49, eX2_firstMisfit_50, eX2_firstMisfit_51, eX2_firstMisfit_51x, eX2_firstMisfit_52, eX2_firstMisfit_55, eX2_firstMisfit_58, eX2_firstMisfit_59, eX2_firstMisfit_60, eX2_firstMisfit_61, eX2_firstMisfit_61x, eX2_firstMisfit_62, eX2_firstMisfit_65, eX2_firstMisfit_68, eX2_firstMisfit_69, evb_some, evm_some, evc_some, evc_none, gd, if_true, if_false, eq_self, and_self, and_true, true_and, ne_eq, not_false_eq_true, or_true, true_or, cf0_0, cf0_1, cf0_2, cf0_3, cf0_4, cf0_5, cf0_6, cf23_0, cf23_1, cf23_2, cf23_3, cf48_0, cf48_1, cf50_0, cf50_1, cg0, cg23, cg48, cg50, cg1, cg12, cg24, cg35, Int.reduceEq, Int.reduceLT, Int.reduceLE, ↓reduceIte, gX_y hfo, J_length hfo, e1, e2, hS, show ¬ ((pl (g.2 1) S (s + 1) : Nat) : Int) < (S : Int) by omega]
  refine Eq.trans ?_ (key 30 0 vS vS (by omega) (fun k hk => by omega) (Or.inl rfl))
  simp only [eX2_firstMisfit_0, eX2_firstMisfit_1]
  rfl
end TX
