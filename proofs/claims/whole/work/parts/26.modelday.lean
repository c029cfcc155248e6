/-! A DAY, THE REFERENCE'S -/
section MD
variable {X : List Int} {mem : AM} {g d : ST}
theorem T5_slighted (hL : DL d) {i j : Nat} {t : Int} (hi : i < 6) (hj : j < 6) : ev X m_X5_slighted 0 [vR 53, vI (i : Int), vI (j : Int), vI t] [] (mpt mem g d) = some (none, mpt mem g (addH d i j (w32 (10 * t)))) := by
  obtain ⟨l1, l2, l3, l4, l5, l6, l7, l8, l9, l10⟩ := hL
  have ij : 6 * i + j < 36 := by omega
  simp only [eX5_slighted_0, eX5_slighted_1, eX5_slighted_4, eX5_slighted_5, eX5_slighted_6, eX5_slighted_9, eX5_slighted_10, eX5_slighted_13, eX5_slighted_14, eX5_slighted_15, eX5_slighted_18, eX5_slighted_19, eX5_slighted_21, eX5_slighted_22, eX5_slighted_23, eX5_slighted_24, eX5_slighted_25, eX5_slighted_27, eX5_slighted_30, eX5_slighted_31, evb_some, evm_some, evc_some, evc_none, gd, if_true, if_false, eq_self, and_self, and_true, true_and, ne_eq, not_false_eq_true, or_true, true_or, mg, mf0, mf1, mf2, mf3, mf4, mf5, mf6, mf7, mf8, mf9, mf10, mf11, mf12, mf13, mf14, mf15, mf16, mf17, mf18, mf19, mf20, mf21, mf22, mf23, mf24, mf25, mf26, mf27, ma54, ma55, ma56, ma57, ma58, ma59, ma60, ma61, ma62, ma63, ma64, ma65, ma66, ma67, ma68, ma69, ma70, ma71, mw11, mw12, mw13, mw18, mw19, mw20, mw22, mw23, mw24, mw27, mx54, mx55, mx56, mx57, mx58, mx59, mx60, mx61, mx62, mx63, mx64, mx65, mx66, mx67, mx68, mx69, mx70, mx71, T5_spot hi hj, T5_held, l5, ij]
  rfl
theorem T5_madeUp (hL : DL d) {i j : Nat} (hi : i < 6) (hj : j < 6) : ev X m_X5_madeUp 0 [vR 53, vI (i : Int), vI (j : Int)] [] (mpt mem g d) = some (none, mpt mem g (peace d i j)) := by
  obtain ⟨l1, l2, l3, l4, l5, l6, l7, l8, l9, l10⟩ := hL
  have ij : 6 * i + j < 36 := by omega
  have ji : 6 * j + i < 36 := by omega
  simp only [eX5_madeUp_0, eX5_madeUp_1, eX5_madeUp_4, eX5_madeUp_5, eX5_madeUp_6, eX5_madeUp_9, eX5_madeUp_10, eX5_madeUp_11, eX5_madeUp_12, eX5_madeUp_13, eX5_madeUp_14, eX5_madeUp_15, eX5_madeUp_18, eX5_madeUp_19, eX5_madeUp_20, eX5_madeUp_23, eX5_madeUp_24, eX5_madeUp_25, eX5_madeUp_26, eX5_madeUp_27, eX5_madeUp_28, evb_some, evm_some, evc_some, evc_none, gd, if_true, if_false, eq_self, and_self, and_true, true_and, ne_eq, not_false_eq_true, or_true, true_or, mg, mf0, mf1, mf2, mf3, mf4, mf5, mf6, mf7, mf8, mf9, mf10, mf11, mf12, mf13, mf14, mf15, mf16, mf17, mf18, mf19, mf20, mf21, mf22, mf23, mf24, mf25, mf26, mf27, ma54, ma55, ma56, ma57, ma58, ma59, ma60, ma61, ma62, ma63, ma64, ma65, ma66, ma67, ma68, ma69, ma70, ma71, mw11, mw12, mw13, mw18, mw19, mw20, mw22, mw23, mw24, mw27, mx54, mx55, mx56, mx57, mx58, mx59, mx60, mx61, mx62, mx63, mx64, mx65, mx66, mx67, mx68, mx69, mx70, mx71, setS_1, setS_2, setL_1, setL_2, Nat.reduceEqDiff, ↓reduceIte, List.length_set, T5_spot hi hj, T5_spot hj hi, l5, ij, ji, if_neg z2, peace, setH, hat]
/-- a PARCEL more -/
def addP (d : ST) (p v : Int) : ST := setS (setL (setL (setL (setL (setL d 6 ((d.2 6).set (d.1 1).toNat p)) 7 ((d.2 7).set (d.1 1).toNat v)) 8 ((d.2 8).set (d.1 1).toNat 0)) 9 ((d.2 9).set (d.1 1).toNat (-9))) 10 ((d.2 10).set (d.1 1).toNat 0)) 1 (w32 (d.1 1 + 1))
theorem T5_adds (hL : DL d) (h0 : 0 ≤ d.1 1) (h8 : d.1 1 < 8) {p v : Int} : ev X m_X5_adds 0 [vR 53, vI p, vI v] [] (mpt mem g d) = some (none, mpt mem g (addP d p v)) := by
  obtain ⟨l1, l2, l3, l4, l5, l6, l7, l8, l9, l10⟩ := hL
  obtain ⟨c, hc⟩ := n2i h0
  have c8 : c < 8 := by omega
  have e : addP d p v = setS (setL (setL (setL (setL (setL d 6 ((d.2 6).set c p)) 7 ((d.2 7).set c v)) 8 ((d.2 8).set c 0)) 10 ((d.2 10).set c 0)) 9 ((d.2 9).set c (-9))) 1 (w32 ((c : Int) + 1)) := by
    unfold addP
    rw [hc, Int.toNat_natCast]
    refine ST_ext (fun _ => rfl) (fun j => ?_)
    simp only [setS_2, setL_2]
    (repeat' split) <;> first | rfl | omega
  rw [e]
  simp only [eX5_adds_0, eX5_adds_1, eX5_adds_4, eX5_adds_5, eX5_adds_8, eX5_adds_9, eX5_adds_10, eX5_adds_11, eX5_adds_14, eX5_adds_15, eX5_adds_18, eX5_adds_19, eX5_adds_20, eX5_adds_21, eX5_adds_24, eX5_adds_25, eX5_adds_28, eX5_adds_29, eX5_adds_30, eX5_adds_31, eX5_adds_34, eX5_adds_35, eX5_adds_38, eX5_adds_39, eX5_adds_40, eX5_adds_41, eX5_adds_44, eX5_adds_45, eX5_adds_48, eX5_adds_50, eX5_adds_51, eX5_adds_52, eX5_adds_52r, eX5_adds_53, eX5_adds_56, eX5_adds_57, eX5_adds_58, eX5_adds_61, evb_some, evm_some, evc_some, evc_none, gd, if_true, if_false, eq_self, and_self, and_true, true_and, ne_eq, not_false_eq_true, or_true, true_or, mg, mf0, mf1, mf2, mf3, mf4, mf5, mf6, mf7, mf8, mf9, mf10, mf11, mf12, mf13, mf14, mf15, mf16, mf17, mf18, mf19, mf20, mf21, mf22, mf23, mf24, mf25, mf26, mf27, ma54, ma55, ma56, ma57, ma58, ma59, ma60, ma61, ma62, ma63, ma64, ma65, ma66, ma67, ma68, ma69, ma70, ma71, mw11, mw12, mw13, mw18, mw19, mw20, mw22, mw23, mw24, mw27, mx54, mx55, mx56, mx57, mx58, mx59, mx60, mx61, mx62, mx63, mx64, mx65, mx66, mx67, mx68, mx69, mx70, mx71, setS_1, setS_2, setL_1, setL_2, Nat.reduceEqDiff, ↓reduceIte, List.length_set, l6, l7, l8, l9, l10, hc, c8]
theorem T5_comesNearer (h : DW d) {c : Nat} (hc : (c : Int) < d.1 1) (h1 : (d.2 8).getD c 0 = 1) : ev X m_X5_comesNearer 0 [vR 53, vI (c : Int)] [] (mpt mem g d) = some (none, mpt mem g (caF c d)) := by
  obtain ⟨⟨l1, l2, l3, l4, l5, l6, l7, l8, l9, l10⟩, h6, h8, hp, hg, hh, hz, hcc⟩ := h
  have c8 : c < 8 := by omega
  obtain ⟨⟨t0, t1⟩, ⟨w0, w1⟩, hb⟩ := hcc c hc
  obtain ⟨⟨b0, b1⟩, b2, b3⟩ := hb h1
  obtain ⟨t, ht⟩ := n2i t0
  obtain ⟨b, hb2⟩ := n2i b0
  have t6 : t < 6 := by omega
  have b6 : b < 6 := by omega
  have bt : 6 * b + t < 36 := by omega
  have g1 := hg t t6
  have k1 := hh b t b6 t6
  unfold hat at k1
  by_cases q2 : 0 < w32 ((d.2 10).getD c 0 - 1)
  · rw [caF, if_pos h1, if_pos q2]
    simp only [eX5_comesNearer_0, eX5_comesNearer_1, eX5_comesNearer_4, eX5_comesNearer_5, eX5_comesNearer_6, eX5_comesNearer_7, eX5_comesNearer_8, eX5_comesNearer_9, eX5_comesNearer_10, eX5_comesNearer_11, eX5_comesNearer_14, eX5_comesNearer_15, eX5_comesNearer_16, eX5_comesNearer_19, eX5_comesNearer_20, eX5_comesNearer_21, eX5_comesNearer_24, eX5_comesNearer_25, eX5_comesNearer_26, eX5_comesNearer_27, eX5_comesNearer_28, eX5_comesNearer_31, eX5_comesNearer_32, eX5_comesNearer_35, eX5_comesNearer_36, eX5_comesNearer_37, eX5_comesNearer_38, eX5_comesNearer_41, eX5_comesNearer_42, eX5_comesNearer_45, eX5_comesNearer_46, eX5_comesNearer_47, eX5_comesNearer_48, eX5_comesNearer_49, eX5_comesNearer_50, eX5_comesNearer_51, eX5_comesNearer_54, eX5_comesNearer_57, eX5_comesNearer_58, eX5_comesNearer_59, eX5_comesNearer_62, eX5_comesNearer_63, eX5_comesNearer_66, eX5_comesNearer_67, eX5_comesNearer_68, eX5_comesNearer_69, eX5_comesNearer_72, eX5_comesNearer_73, eX5_comesNearer_74, eX5_comesNearer_77, eX5_comesNearer_78, eX5_comesNearer_81, eX5_comesNearer_82, eX5_comesNearer_85, eX5_comesNearer_86, eX5_comesNearer_87, eX5_comesNearer_88, eX5_comesNearer_91, eX5_comesNearer_92, eX5_comesNearer_93, eX5_comesNearer_96, eX5_comesNearer_97, eX5_comesNearer_98, eX5_comesNearer_101, eX5_comesNearer_102, eX5_comesNearer_103, eX5_comesNearer_104, eX5_comesNearer_105, eX5_comesNearer_107, eX5_comesNearer_110, eX5_comesNearer_111, evb_some, evm_some, evc_some, evc_none, gd, if_true, if_false, eq_self, and_self, and_true, true_and, ne_eq, not_false_eq_true, or_true, true_or, mg, mf0, mf1, mf2, mf3, mf4, mf5, mf6, mf7, mf8, mf9, mf10, mf11, mf12, mf13, mf14, mf15, mf16, mf17, mf18, mf19, mf20, mf21, mf22, mf23, mf24, mf25, mf26, mf27, ma54, ma55, ma56, ma57, ma58, ma59, ma60, ma61, ma62, ma63, ma64, ma65, ma66, ma67, ma68, ma69, ma70, ma71, mw11, mw12, mw13, mw18, mw19, mw20, mw22, mw23, mw24, mw27, mx54, mx55, mx56, mx57, mx58, mx59, mx60, mx61, mx62, mx63, mx64, mx65, mx66, mx67, mx68, mx69, mx70, mx71, setS_1, setS_2, setL_1, setL_2, Nat.reduceEqDiff, ↓reduceIte, List.length_set, l10, c8, getD_eq (show c < (d.2 10).length by omega), if_pos q2]
  · rw [caF, if_pos h1, if_neg q2, ht, hb2, Int.toNat_natCast, Int.toNat_natCast]
    simp only [eX5_comesNearer_0, eX5_comesNearer_1, eX5_comesNearer_4, eX5_comesNearer_5, eX5_comesNearer_6, eX5_comesNearer_7, eX5_comesNearer_8, eX5_comesNearer_9, eX5_comesNearer_10, eX5_comesNearer_11, eX5_comesNearer_14, eX5_comesNearer_15, eX5_comesNearer_16, eX5_comesNearer_19, eX5_comesNearer_20, eX5_comesNearer_21, eX5_comesNearer_24, eX5_comesNearer_25, eX5_comesNearer_26, eX5_comesNearer_27, eX5_comesNearer_28, eX5_comesNearer_31, eX5_comesNearer_32, eX5_comesNearer_35, eX5_comesNearer_36, eX5_comesNearer_37, eX5_comesNearer_38, eX5_comesNearer_41, eX5_comesNearer_42, eX5_comesNearer_45, eX5_comesNearer_46, eX5_comesNearer_47, eX5_comesNearer_48, eX5_comesNearer_49, eX5_comesNearer_50, eX5_comesNearer_51, eX5_comesNearer_54, eX5_comesNearer_57, eX5_comesNearer_58, eX5_comesNearer_59, eX5_comesNearer_62, eX5_comesNearer_63, eX5_comesNearer_66, eX5_comesNearer_67, eX5_comesNearer_68, eX5_comesNearer_69, eX5_comesNearer_72, eX5_comesNearer_73, eX5_comesNearer_74, eX5_comesNearer_77, eX5_comesNearer_78, eX5_comesNearer_81, eX5_comesNearer_82, eX5_comesNearer_85, eX5_comesNearer_86, eX5_comesNearer_87, eX5_comesNearer_88, eX5_comesNearer_91, eX5_comesNearer_92, eX5_comesNearer_93, eX5_comesNearer_96, eX5_comesNearer_97, eX5_comesNearer_98, eX5_comesNearer_101, eX5_comesNearer_102, eX5_comesNearer_103, eX5_comesNearer_104, eX5_comesNearer_105, eX5_comesNearer_107, eX5_comesNearer_110, eX5_comesNearer_111, evb_some, evm_some, evc_some, evc_none, gd, if_true, if_false, eq_self, and_self, and_true, true_and, ne_eq, not_false_eq_true, or_true, true_or, mg, mf0, mf1, mf2, mf3, mf4, mf5, mf6, mf7, mf8, mf9, mf10, mf11, mf12, mf13, mf14, mf15, mf16, mf17, mf18, mf19, mf20, mf21, mf22, mf23, mf24, mf25, mf26, mf27, ma54, ma55, ma56, ma57, ma58, ma59, ma60, ma61, ma62, ma63, ma64, ma65, ma66, ma67, ma68, ma69, ma70, ma71, mw11, mw12, mw13, mw18, mw19, mw20, mw22, mw23, mw24, mw27, mx54, mx55, mx56, mx57, mx58, mx59, mx60, mx61, mx62, mx63, mx64, mx65, mx66, mx67, mx68, mx69, mx70, mx71, setS_1, setS_2, setL_1, setL_2, Nat.reduceEqDiff, ↓reduceIte, List.length_set, T5_held, T5_spot b6 t6, l4, l5, l6, l7, l8, l9, l10, c8, t6, bt, ht, hb2, getD_eq (show c < (d.2 10).length by omega), if_neg q2]
    rw [w32_id (n := (d.2 10).getD c 0 - 1) (by omega) (by omega)] at q2 ⊢
    rw [show (d.2 10).getD c 0 - 1 = 0 by omega, w32_id (n := (d.2 4).getD t 0 + 1) (by omega) (by omega), w32_id (n := -(d.2 7).getD c 0) (by omega) (by omega), w32_id (n := (d.2 5).getD (6 * b + t) 0 - (d.2 7).getD c 0) (by omega) (by omega)]
    unfold addH setH hat clamp
    simp only [setS_1, setS_2, setL_1, setL_2, Nat.reduceEqDiff, ↓reduceIte, List.length_set]
    rw [w32_id (n := (d.2 5).getD (6 * b + t) 0 + -(d.2 7).getD c 0) (by omega) (by omega), ← Int.sub_eq_add_neg]
    refine congrArg some (Prod.ext rfl (congrArg (mpt mem g) (ST_ext (fun _ => rfl) (fun j => ?_))))
    have e4 : (if (d.2 4).getD t 0 + 1 < 0 then 0 else if 999 < (d.2 4).getD t 0 + 1 then 999 else (d.2 4).getD t 0 + 1) = (if (d.2 4).getD t 0 + 1 < 999 then (d.2 4).getD t 0 + 1 else 999) := by
      (repeat' split) <;> omega
    simp only [setL_2, e4]
    (repeat' split) <;> first | rfl | omega
theorem T5_isTaken (h : DW d) {c : Nat} (hc : (c : Int) < d.1 1) (h1 : (d.2 8).getD c 0 = 0) {y1 : AV} : ev X m_X5_isTaken 0 [vR 53, vI (c : Int), y1] [] (mpt mem g d) = some (none, mpt mem g (giF c d)) := by
  have h' := h
  obtain ⟨hL, h6, h8, hp, hg, hh, hz, hcc⟩ := h
  obtain ⟨l1, l2, l3, l4, l5, l6, l7, l8, l9, l10⟩ := id hL
  have c8 : c < 8 := by omega
  obtain ⟨⟨t0, t1⟩, -, -⟩ := hcc c hc
  obtain ⟨t, ht⟩ := n2i t0
  have t6 : t < 6 := by omega
  have he := T5_enemyOf (X := X) (mem := mem) (g := g) h' (show (t : Int) < d.1 0 by omega)
  rcases ene_spec d h6.1 t (-9) with q | ⟨s1, s2, s3, s4, s5⟩
  · rw [giF, if_pos h1, ht, Int.toNat_natCast, if_neg (by omega)]
    simp only [eX5_isTaken_0, eX5_isTaken_1, eX5_isTaken_2, eX5_isTaken_5, eX5_isTaken_6, eX5_isTaken_7, eX5_isTaken_10, eX5_isTaken_11, eX5_isTaken_12, eX5_isTaken_15, eX5_isTaken_16, eX5_isTaken_17, eX5_isTaken_20, eX5_isTaken_23, eX5_isTaken_24, eX5_isTaken_25, eX5_isTaken_28, eX5_isTaken_29, eX5_isTaken_30, eX5_isTaken_31, eX5_isTaken_32, eX5_isTaken_35, eX5_isTaken_36, eX5_isTaken_37, eX5_isTaken_38, eX5_isTaken_39, eX5_isTaken_42, eX5_isTaken_43, eX5_isTaken_44, eX5_isTaken_47, eX5_isTaken_48, eX5_isTaken_49, eX5_isTaken_50, eX5_isTaken_53, eX5_isTaken_54, eX5_isTaken_57, eX5_isTaken_58, eX5_isTaken_59, eX5_isTaken_60, eX5_isTaken_63, eX5_isTaken_64, eX5_isTaken_65, eX5_isTaken_68, eX5_isTaken_69, eX5_isTaken_70, eX5_isTaken_71, eX5_isTaken_72, eX5_isTaken_73, eX5_isTaken_76, eX5_isTaken_77, eX5_isTaken_78, eX5_isTaken_79, eX5_isTaken_80, evb_some, evm_some, evc_some, evc_none, gd, if_true, if_false, eq_self, and_self, and_true, true_and, ne_eq, not_false_eq_true, or_true, true_or, mg, mf0, mf1, mf2, mf3, mf4, mf5, mf6, mf7, mf8, mf9, mf10, mf11, mf12, mf13, mf14, mf15, mf16, mf17, mf18, mf19, mf20, mf21, mf22, mf23, mf24, mf25, mf26, mf27, ma54, ma55, ma56, ma57, ma58, ma59, ma60, ma61, ma62, ma63, ma64, ma65, ma66, ma67, ma68, ma69, ma70, ma71, l6, c8, ht, he, q, if_pos (show (-9 : Int) < 0 by decide)]
  · obtain ⟨e, hee⟩ := n2i s1
    have e6 : e < 6 := by omega
    rw [hee] at he s2 s3
    have c2 : ¬ (e : Int) < 0 := by omega
    have hcr := T5_isCarrying (X := X) (mem := mem) (g := g) (p := (e : Int)) (z := vS) hL h8.2
    by_cases q3 : car d (e : Int) = true
    · rw [giF, if_pos h1, ht, Int.toNat_natCast, hee, if_pos (by omega), if_pos q3]
      simp only [eX5_isTaken_0, eX5_isTaken_1, eX5_isTaken_2, eX5_isTaken_5, eX5_isTaken_6, eX5_isTaken_7, eX5_isTaken_10, eX5_isTaken_11, eX5_isTaken_12, eX5_isTaken_15, eX5_isTaken_16, eX5_isTaken_17, eX5_isTaken_20, eX5_isTaken_23, eX5_isTaken_24, eX5_isTaken_25, eX5_isTaken_28, eX5_isTaken_29, eX5_isTaken_30, eX5_isTaken_31, eX5_isTaken_32, eX5_isTaken_35, eX5_isTaken_36, eX5_isTaken_37, eX5_isTaken_38, eX5_isTaken_39, eX5_isTaken_42, eX5_isTaken_43, eX5_isTaken_44, eX5_isTaken_47, eX5_isTaken_48, eX5_isTaken_49, eX5_isTaken_50, eX5_isTaken_53, eX5_isTaken_54, eX5_isTaken_57, eX5_isTaken_58, eX5_isTaken_59, eX5_isTaken_60, eX5_isTaken_63, eX5_isTaken_64, eX5_isTaken_65, eX5_isTaken_68, eX5_isTaken_69, eX5_isTaken_70, eX5_isTaken_71, eX5_isTaken_72, eX5_isTaken_73, eX5_isTaken_76, eX5_isTaken_77, eX5_isTaken_78, eX5_isTaken_79, eX5_isTaken_80, evb_some, evm_some, evc_some, evc_none, gd, if_true, if_false, eq_self, and_self, and_true, true_and, ne_eq, not_false_eq_true, or_true, true_or, mg, mf0, mf1, mf2, mf3, mf4, mf5, mf6, mf7, mf8, mf9, mf10, mf11, mf12, mf13, mf14, mf15, mf16, mf17, mf18, mf19, mf20, mf21, mf22, mf23, mf24, mf25, mf26, mf27, ma54, ma55, ma56, ma57, ma58, ma59, ma60, ma61, ma62, ma63, ma64, ma65, ma66, ma67, ma68, ma69, ma70, ma71, l6, c8, ht, he, if_neg c2, hcr, if_pos q3, show ¬ (1 : Int) = 0 by decide]
    · rw [giF, if_pos h1, ht, Int.toNat_natCast, hee, if_pos (by omega), if_neg q3, Int.toNat_natCast]
      have p1 := hp e e6
      have p2 := hp t t6
      have hb := miles_b ((d.2 1).getD e 0)
      have hap : (if (d.2 3).getD t 0 < (d.2 3).getD e 0 then w32 ((d.2 3).getD e 0 - (d.2 3).getD t 0) else w32 ((d.2 3).getD t 0 - (d.2 3).getD e 0)) = apt d e t := by
        rw [w32_id (n := (d.2 3).getD e 0 - (d.2 3).getD t 0) (by omega) (by omega), w32_id (n := (d.2 3).getD t 0 - (d.2 3).getD e 0) (by omega) (by omega)]
        unfold apt
        (repeat' split) <;> omega
      have hm : ev X m_X5_milesOf 0 [vR 53, vI (e : Int)] [] (mpt mem g (setL (setL d 8 ((d.2 8).set c 1)) 9 ((d.2 9).set c (e : Int)))) = some (some (vI (miles ((d.2 1).getD e 0))), mpt mem g (setL (setL d 8 ((d.2 8).set c 1)) 9 ((d.2 9).set c (e : Int)))) := T5_milesOf (d := setL (setL d 8 ((d.2 8).set c 1)) 9 ((d.2 9).set c (e : Int))) (by unfold DL; simp only [setS_1, setS_2, setL_1, setL_2, Nat.reduceEqDiff, ↓reduceIte, List.length_set, l1, l2, l3, l4, l5, l6, l7, l8, l9, l10, and_self]) e6
      simp only [eX5_isTaken_0, eX5_isTaken_1, eX5_isTaken_2, eX5_isTaken_5, eX5_isTaken_6, eX5_isTaken_7, eX5_isTaken_10, eX5_isTaken_11, eX5_isTaken_12, eX5_isTaken_15, eX5_isTaken_16, eX5_isTaken_17, eX5_isTaken_20, eX5_isTaken_23, eX5_isTaken_24, eX5_isTaken_25, eX5_isTaken_28, eX5_isTaken_29, eX5_isTaken_30, eX5_isTaken_31, eX5_isTaken_32, eX5_isTaken_35, eX5_isTaken_36, eX5_isTaken_37, eX5_isTaken_38, eX5_isTaken_39, eX5_isTaken_42, eX5_isTaken_43, eX5_isTaken_44, eX5_isTaken_47, eX5_isTaken_48, eX5_isTaken_49, eX5_isTaken_50, eX5_isTaken_53, eX5_isTaken_54, eX5_isTaken_57, eX5_isTaken_58, eX5_isTaken_59, eX5_isTaken_60, eX5_isTaken_63, eX5_isTaken_64, eX5_isTaken_65, eX5_isTaken_68, eX5_isTaken_69, eX5_isTaken_70, eX5_isTaken_71, eX5_isTaken_72, eX5_isTaken_73, eX5_isTaken_76, eX5_isTaken_77, eX5_isTaken_78, eX5_isTaken_79, eX5_isTaken_80, evb_some, evm_some, evc_some, evc_none, gd, if_true, if_false, eq_self, and_self, and_true, true_and, ne_eq, not_false_eq_true, or_true, true_or, mg, mf0, mf1, mf2, mf3, mf4, mf5, mf6, mf7, mf8, mf9, mf10, mf11, mf12, mf13, mf14, mf15, mf16, mf17, mf18, mf19, mf20, mf21, mf22, mf23, mf24, mf25, mf26, mf27, ma54, ma55, ma56, ma57, ma58, ma59, ma60, ma61, ma62, ma63, ma64, ma65, ma66, ma67, ma68, ma69, ma70, ma71, mw11, mw12, mw13, mw18, mw19, mw20, mw22, mw23, mw24, mw27, mx54, mx55, mx56, mx57, mx58, mx59, mx60, mx61, mx62, mx63, mx64, mx65, mx66, mx67, mx68, mx69, mx70, mx71, setS_1, setS_2, setL_1, setL_2, Nat.reduceEqDiff, ↓reduceIte, List.length_set, T5_apart, l3, l6, l8, l9, l10, c8, e6, t6, ht, he, if_neg c2, hcr, if_neg q3, hm, hap, if_neg (show ¬ miles ((d.2 1).getD e 0) = 0 by omega), dor]
/-- the reference's days -/
theorem T5_goesDay (h : DW d) (s : Bool) {y1 : AV} : ev X m_X5_goesDay 0 [vR 53, vI (if s = true then 1 else 0), y1] [] (mpt mem g d) = some (none, mpt mem g (pday s d)) := by
  have h1 : DW (setS d 2 (w32 (d.1 2 + 1))) := h
  have hwk : ∀ (n k : Nat) (l : List Int) (e : ST) (f : Int) (z : AV), (∀ j, w32 (l.getD j 0) = l.getD j 0) → l.length = 36 → k + n = 36 → ev X m_X5_goesDay 77 [vR 53, vI f, vI (k : Int)] [] (mpt mem g (setL e 5 l)) = some (none, mpt mem g (if w32 ((e.1 2).tmod 7) = 0 then setL e 5 (itr coF n k l) else setL e 5 l)) := by
    intro n
    induction n with
    | zero =>
      intro k l e f z hw hl hk
      have c1 : ¬ (k : Int) < 36 := by omega
      rw [eX5_goesDay_77]
      simp only [eX5_goesDay_0, eX5_goesDay_1, eX5_goesDay_1r, eX5_goesDay_2, eX5_goesDay_5, eX5_goesDay_6, eX5_goesDay_7, eX5_goesDay_10, eX5_goesDay_11, eX5_goesDay_12, eX5_goesDay_13, eX5_goesDay_14, eX5_goesDay_17, eX5_goesDay_20, eX5_goesDay_21, eX5_goesDay_24, eX5_goesDay_25, eX5_goesDay_28, eX5_goesDay_29, eX5_goesDay_30, eX5_goesDay_31, eX5_goesDay_34, eX5_goesDay_35, eX5_goesDay_36, eX5_goesDay_39, eX5_goesDay_42, eX5_goesDay_45, eX5_goesDay_46, eX5_goesDay_47, eX5_goesDay_48, eX5_goesDay_49, eX5_goesDay_52, eX5_goesDay_55, eX5_goesDay_56, eX5_goesDay_59, eX5_goesDay_60, eX5_goesDay_61, eX5_goesDay_64, eX5_goesDay_65, eX5_goesDay_66, eX5_goesDay_69, eX5_goesDay_72, eX5_goesDay_75, eX5_goesDay_76, eX5_goesDay_78, eX5_goesDay_80, eX5_goesDay_83, eX5_goesDay_84, eX5_goesDay_87, eX5_goesDay_89, eX5_goesDay_90, eX5_goesDay_93, eX5_goesDay_94, eX5_goesDay_97, eX5_goesDay_98, eX5_goesDay_99, eX5_goesDay_100, eX5_goesDay_101, eX5_goesDay_104, eX5_goesDay_105, eX5_goesDay_106, eX5_goesDay_109, eX5_goesDay_110, eX5_goesDay_113, eX5_goesDay_114, eX5_goesDay_115, eX5_goesDay_116, eX5_goesDay_119, eX5_goesDay_122, evb_some, evm_some, evc_some, evc_none, gd, if_true, if_false, eq_self, and_self, and_true, true_and, ne_eq, not_false_eq_true, or_true, true_or, mg, mf0, mf1, mf2, mf3, mf4, mf5, mf6, mf7, mf8, mf9, mf10, mf11, mf12, mf13, mf14, mf15, mf16, mf17, mf18, mf19, mf20, mf21, mf22, mf23, mf24, mf25, mf26, mf27, if_neg c1, itr]
      split <;> rfl
    | succ n ih =>
      intro k l e f z hw hl hk
      have c1 : (k : Int) < 36 := by omega
      have k8 : k < 36 := by omega
      have e1 : ∀ l2, setL (setL e 5 l) 5 l2 = setL e 5 l2 := fun l2 => ST_ext (fun _ => rfl) (fun j => by simp only [setL_2]; split <;> rfl)
      rw [eX5_goesDay_77]
      by_cases q : w32 ((e.1 2).tmod 7) = 0
      · have hw2 : ∀ j, w32 ((coF k l).getD j 0) = (coF k l).getD j 0 := by
          intro j
          unfold coF
          split
          · rw [getD_set (by omega)]
            split
            · rw [w32_w]
            · exact hw j
          · exact hw j
        have ih2 := ih (k + 1) (coF k l) e f z hw2 (by rw [coF_len]; exact hl) (by omega)
        rw [if_pos q] at ih2 ⊢
        by_cases q3 : 0 < l.getD k 0
        · rw [coF, if_pos q3] at ih2
          simp only [eX5_goesDay_0, eX5_goesDay_1, eX5_goesDay_1r, eX5_goesDay_2, eX5_goesDay_5, eX5_goesDay_6, eX5_goesDay_7, eX5_goesDay_10, eX5_goesDay_11, eX5_goesDay_12, eX5_goesDay_13, eX5_goesDay_14, eX5_goesDay_17, eX5_goesDay_20, eX5_goesDay_21, eX5_goesDay_24, eX5_goesDay_25, eX5_goesDay_28, eX5_goesDay_29, eX5_goesDay_30, eX5_goesDay_31, eX5_goesDay_34, eX5_goesDay_35, eX5_goesDay_36, eX5_goesDay_39, eX5_goesDay_42, eX5_goesDay_45, eX5_goesDay_46, eX5_goesDay_47, eX5_goesDay_48, eX5_goesDay_49, eX5_goesDay_52, eX5_goesDay_55, eX5_goesDay_56, eX5_goesDay_59, eX5_goesDay_60, eX5_goesDay_61, eX5_goesDay_64, eX5_goesDay_65, eX5_goesDay_66, eX5_goesDay_69, eX5_goesDay_72, eX5_goesDay_75, eX5_goesDay_76, eX5_goesDay_78, eX5_goesDay_80, eX5_goesDay_83, eX5_goesDay_84, eX5_goesDay_87, eX5_goesDay_89, eX5_goesDay_90, eX5_goesDay_93, eX5_goesDay_94, eX5_goesDay_97, eX5_goesDay_98, eX5_goesDay_99, eX5_goesDay_100, eX5_goesDay_101, eX5_goesDay_104, eX5_goesDay_105, eX5_goesDay_106, eX5_goesDay_109, eX5_goesDay_110, eX5_goesDay_113, eX5_goesDay_114, eX5_goesDay_115, eX5_goesDay_116, eX5_goesDay_119, eX5_goesDay_122, evb_some, evm_some, evc_some, evc_none, gd, if_true, if_false, eq_self, and_self, and_true, true_and, ne_eq, not_false_eq_true, or_true, true_or, mg, mf0, mf1, mf2, mf3, mf4, mf5, mf6, mf7, mf8, mf9, mf10, mf11, mf12, mf13, mf14, mf15, mf16, mf17, mf18, mf19, mf20, mf21, mf22, mf23, mf24, mf25, mf26, mf27, ma54, ma55, ma56, ma57, ma58, ma59, ma60, ma61, ma62, ma63, ma64, ma65, ma66, ma67, ma68, ma69, ma70, ma71, mw11, mw12, mw13, mw18, mw19, mw20, mw22, mw23, mw24, mw27, mx54, mx55, mx56, mx57, mx58, mx59, mx60, mx61, mx62, mx63, mx64, mx65, mx66, mx67, mx68, mx69, mx70, mx71, setS_1, setS_2, setL_1, setL_2, Nat.reduceEqDiff, ↓reduceIte, List.length_set, hl, k8, if_pos c1, if_neg z7, q, e1, if_pos q3, w32_k1 (show k < 2147483647 by omega), itr, ih2]
          rw [coF, if_pos q3]
        · rw [coF, if_neg q3] at ih2
          have e5 : l.set k (w32 (l.getD k 0 - 0)) = l := by rw [Int.sub_zero, hw k, set_self]
          simp only [eX5_goesDay_0, eX5_goesDay_1, eX5_goesDay_1r, eX5_goesDay_2, eX5_goesDay_5, eX5_goesDay_6, eX5_goesDay_7, eX5_goesDay_10, eX5_goesDay_11, eX5_goesDay_12, eX5_goesDay_13, eX5_goesDay_14, eX5_goesDay_17, eX5_goesDay_20, eX5_goesDay_21, eX5_goesDay_24, eX5_goesDay_25, eX5_goesDay_28, eX5_goesDay_29, eX5_goesDay_30, eX5_goesDay_31, eX5_goesDay_34, eX5_goesDay_35, eX5_goesDay_36, eX5_goesDay_39, eX5_goesDay_42, eX5_goesDay_45, eX5_goesDay_46, eX5_goesDay_47, eX5_goesDay_48, eX5_goesDay_49, eX5_goesDay_52, eX5_goesDay_55, eX5_goesDay_56, eX5_goesDay_59, eX5_goesDay_60, eX5_goesDay_61, eX5_goesDay_64, eX5_goesDay_65, eX5_goesDay_66, eX5_goesDay_69, eX5_goesDay_72, eX5_goesDay_75, eX5_goesDay_76, eX5_goesDay_78, eX5_goesDay_80, eX5_goesDay_83, eX5_goesDay_84, eX5_goesDay_87, eX5_goesDay_89, eX5_goesDay_90, eX5_goesDay_93, eX5_goesDay_94, eX5_goesDay_97, eX5_goesDay_98, eX5_goesDay_99, eX5_goesDay_100, eX5_goesDay_101, eX5_goesDay_104, eX5_goesDay_105, eX5_goesDay_106, eX5_goesDay_109, eX5_goesDay_110, eX5_goesDay_113, eX5_goesDay_114, eX5_goesDay_115, eX5_goesDay_116, eX5_goesDay_119, eX5_goesDay_122, evb_some, evm_some, evc_some, evc_none, gd, if_true, if_false, eq_self, and_self, and_true, true_and, ne_eq, not_false_eq_true, or_true, true_or, mg, mf0, mf1, mf2, mf3, mf4, mf5, mf6, mf7, mf8, mf9, mf10, mf11, mf12, mf13, mf14, mf15, mf16, mf17, mf18, mf19, mf20, mf21, mf22, mf23, mf24, mf25, mf26, mf27, ma54, ma55, ma56, ma57, ma58, ma59, ma60, ma61, ma62, ma63, ma64, ma65, ma66, ma67, ma68, ma69, ma70, ma71, mw11, mw12, mw13, mw18, mw19, mw20, mw22, mw23, mw24, mw27, mx54, mx55, mx56, mx57, mx58, mx59, mx60, mx61, mx62, mx63, mx64, mx65, mx66, mx67, mx68, mx69, mx70, mx71, setS_1, setS_2, setL_1, setL_2, Nat.reduceEqDiff, ↓reduceIte, List.length_set, hl, k8, if_pos c1, if_neg z7, q, e1, if_neg q3, e5, w32_k1 (show k < 2147483647 by omega), itr, ih2]
          rw [coF, if_neg q3]
      · rw [if_neg q]
        simp only [eX5_goesDay_0, eX5_goesDay_1, eX5_goesDay_1r, eX5_goesDay_2, eX5_goesDay_5, eX5_goesDay_6, eX5_goesDay_7, eX5_goesDay_10, eX5_goesDay_11, eX5_goesDay_12, eX5_goesDay_13, eX5_goesDay_14, eX5_goesDay_17, eX5_goesDay_20, eX5_goesDay_21, eX5_goesDay_24, eX5_goesDay_25, eX5_goesDay_28, eX5_goesDay_29, eX5_goesDay_30, eX5_goesDay_31, eX5_goesDay_34, eX5_goesDay_35, eX5_goesDay_36, eX5_goesDay_39, eX5_goesDay_42, eX5_goesDay_45, eX5_goesDay_46, eX5_goesDay_47, eX5_goesDay_48, eX5_goesDay_49, eX5_goesDay_52, eX5_goesDay_55, eX5_goesDay_56, eX5_goesDay_59, eX5_goesDay_60, eX5_goesDay_61, eX5_goesDay_64, eX5_goesDay_65, eX5_goesDay_66, eX5_goesDay_69, eX5_goesDay_72, eX5_goesDay_75, eX5_goesDay_76, eX5_goesDay_78, eX5_goesDay_80, eX5_goesDay_83, eX5_goesDay_84, eX5_goesDay_87, eX5_goesDay_89, eX5_goesDay_90, eX5_goesDay_93, eX5_goesDay_94, eX5_goesDay_97, eX5_goesDay_98, eX5_goesDay_99, eX5_goesDay_100, eX5_goesDay_101, eX5_goesDay_104, eX5_goesDay_105, eX5_goesDay_106, eX5_goesDay_109, eX5_goesDay_110, eX5_goesDay_113, eX5_goesDay_114, eX5_goesDay_115, eX5_goesDay_116, eX5_goesDay_119, eX5_goesDay_122, evb_some, evm_some, evc_some, evc_none, gd, if_true, if_false, eq_self, and_self, and_true, true_and, ne_eq, not_false_eq_true, or_true, true_or, mg, mf0, mf1, mf2, mf3, mf4, mf5, mf6, mf7, mf8, mf9, mf10, mf11, mf12, mf13, mf14, mf15, mf16, mf17, mf18, mf19, mf20, mf21, mf22, mf23, mf24, mf25, mf26, mf27, setS_1, setS_2, setL_1, setL_2, Nat.reduceEqDiff, ↓reduceIte, List.length_set, if_pos c1, if_neg z7, if_neg q]
  have hgi : ∀ (n k : Nat) (e : ST) (f : Int) (z : AV), DW e → k + n = (e.1 1).toNat → ev X m_X5_goesDay 47 [vR 53, vI f, vI (k : Int)] [] (mpt mem g e) = ev X m_X5_goesDay 77 [vR 53, vI f, vI 0] [] (mpt mem g (itr giF n k e)) := by
    intro n
    induction n with
    | zero =>
      intro k e f z he hk
      have c1 : ¬ (k : Int) < e.1 1 := by have := he.2.2.1; omega
      rw [eX5_goesDay_47]
      simp only [eX5_goesDay_0, eX5_goesDay_1, eX5_goesDay_1r, eX5_goesDay_2, eX5_goesDay_5, eX5_goesDay_6, eX5_goesDay_7, eX5_goesDay_10, eX5_goesDay_11, eX5_goesDay_12, eX5_goesDay_13, eX5_goesDay_14, eX5_goesDay_17, eX5_goesDay_20, eX5_goesDay_21, eX5_goesDay_24, eX5_goesDay_25, eX5_goesDay_28, eX5_goesDay_29, eX5_goesDay_30, eX5_goesDay_31, eX5_goesDay_34, eX5_goesDay_35, eX5_goesDay_36, eX5_goesDay_39, eX5_goesDay_42, eX5_goesDay_45, eX5_goesDay_46, eX5_goesDay_48, eX5_goesDay_49, eX5_goesDay_52, eX5_goesDay_55, eX5_goesDay_56, eX5_goesDay_59, eX5_goesDay_60, eX5_goesDay_61, eX5_goesDay_64, eX5_goesDay_65, eX5_goesDay_66, eX5_goesDay_69, eX5_goesDay_72, eX5_goesDay_75, eX5_goesDay_76, eX5_goesDay_78, eX5_goesDay_80, eX5_goesDay_83, eX5_goesDay_84, eX5_goesDay_87, eX5_goesDay_89, eX5_goesDay_90, eX5_goesDay_93, eX5_goesDay_94, eX5_goesDay_97, eX5_goesDay_98, eX5_goesDay_99, eX5_goesDay_100, eX5_goesDay_101, eX5_goesDay_104, eX5_goesDay_105, eX5_goesDay_106, eX5_goesDay_109, eX5_goesDay_110, eX5_goesDay_113, eX5_goesDay_114, eX5_goesDay_115, eX5_goesDay_116, eX5_goesDay_119, eX5_goesDay_122, evb_some, evm_some, evc_some, evc_none, gd, if_true, if_false, eq_self, and_self, and_true, true_and, ne_eq, not_false_eq_true, or_true, true_or, mg, mf0, mf1, mf2, mf3, mf4, mf5, mf6, mf7, mf8, mf9, mf10, mf11, mf12, mf13, mf14, mf15, mf16, mf17, mf18, mf19, mf20, mf21, mf22, mf23, mf24, mf25, mf26, mf27, if_neg c1, itr]
    | succ n ih =>
      intro k e f z he hk
      have c1 : (k : Int) < e.1 1 := by have := he.2.2.1; omega
      have k8 : k < 8 := by have := he.2.2.1; omega
      have l8 : (e.2 8).length = 8 := he.1.2.2.2.2.2.2.2.1
      have ih2 := ih (k + 1) (giF k e) f z (DW_giF he c1) (by rw [giF_1]; omega)
      rw [eX5_goesDay_47]
      by_cases q : (e.2 8).getD k 0 = 0
      · have ht := T5_isTaken (X := X) (mem := mem) (g := g) (y1 := vS) he c1 q
        simp only [eX5_goesDay_0, eX5_goesDay_1, eX5_goesDay_1r, eX5_goesDay_2, eX5_goesDay_5, eX5_goesDay_6, eX5_goesDay_7, eX5_goesDay_10, eX5_goesDay_11, eX5_goesDay_12, eX5_goesDay_13, eX5_goesDay_14, eX5_goesDay_17, eX5_goesDay_20, eX5_goesDay_21, eX5_goesDay_24, eX5_goesDay_25, eX5_goesDay_28, eX5_goesDay_29, eX5_goesDay_30, eX5_goesDay_31, eX5_goesDay_34, eX5_goesDay_35, eX5_goesDay_36, eX5_goesDay_39, eX5_goesDay_42, eX5_goesDay_45, eX5_goesDay_46, eX5_goesDay_48, eX5_goesDay_49, eX5_goesDay_52, eX5_goesDay_55, eX5_goesDay_56, eX5_goesDay_59, eX5_goesDay_60, eX5_goesDay_61, eX5_goesDay_64, eX5_goesDay_65, eX5_goesDay_66, eX5_goesDay_69, eX5_goesDay_72, eX5_goesDay_75, eX5_goesDay_76, eX5_goesDay_78, eX5_goesDay_80, eX5_goesDay_83, eX5_goesDay_84, eX5_goesDay_87, eX5_goesDay_89, eX5_goesDay_90, eX5_goesDay_93, eX5_goesDay_94, eX5_goesDay_97, eX5_goesDay_98, eX5_goesDay_99, eX5_goesDay_100, eX5_goesDay_101, eX5_goesDay_104, eX5_goesDay_105, eX5_goesDay_106, eX5_goesDay_109, eX5_goesDay_110, eX5_goesDay_113, eX5_goesDay_114, eX5_goesDay_115, eX5_goesDay_116, eX5_goesDay_119, eX5_goesDay_122, evb_some, evm_some, evc_some, evc_none, gd, if_true, if_false, eq_self, and_self, and_true, true_and, ne_eq, not_false_eq_true, or_true, true_or, mg, mf0, mf1, mf2, mf3, mf4, mf5, mf6, mf7, mf8, mf9, mf10, mf11, mf12, mf13, mf14, mf15, mf16, mf17, mf18, mf19, mf20, mf21, mf22, mf23, mf24, mf25, mf26, mf27, ma54, ma55, ma56, ma57, ma58, ma59, ma60, ma61, ma62, ma63, ma64, ma65, ma66, ma67, ma68, ma69, ma70, ma71, l8, k8, if_pos c1, if_pos q, ht, w32_k1 (show k < 2147483647 by omega), itr, ih2]
      · rw [giF, if_neg q] at ih2
        simp only [eX5_goesDay_0, eX5_goesDay_1, eX5_goesDay_1r, eX5_goesDay_2, eX5_goesDay_5, eX5_goesDay_6, eX5_goesDay_7, eX5_goesDay_10, eX5_goesDay_11, eX5_goesDay_12, eX5_goesDay_13, eX5_goesDay_14, eX5_goesDay_17, eX5_goesDay_20, eX5_goesDay_21, eX5_goesDay_24, eX5_goesDay_25, eX5_goesDay_28, eX5_goesDay_29, eX5_goesDay_30, eX5_goesDay_31, eX5_goesDay_34, eX5_goesDay_35, eX5_goesDay_36, eX5_goesDay_39, eX5_goesDay_42, eX5_goesDay_45, eX5_goesDay_46, eX5_goesDay_48, eX5_goesDay_49, eX5_goesDay_52, eX5_goesDay_55, eX5_goesDay_56, eX5_goesDay_59, eX5_goesDay_60, eX5_goesDay_61, eX5_goesDay_64, eX5_goesDay_65, eX5_goesDay_66, eX5_goesDay_69, eX5_goesDay_72, eX5_goesDay_75, eX5_goesDay_76, eX5_goesDay_78, eX5_goesDay_80, eX5_goesDay_83, eX5_goesDay_84, eX5_goesDay_87, eX5_goesDay_89, eX5_goesDay_90, eX5_goesDay_93, eX5_goesDay_94, eX5_goesDay_97, eX5_goesDay_98, eX5_goesDay_99, eX5_goesDay_100, eX5_goesDay_101, eX5_goesDay_104, eX5_goesDay_105, eX5_goesDay_106, eX5_goesDay_109, eX5_goesDay_110, eX5_goesDay_113, eX5_goesDay_114, eX5_goesDay_115, eX5_goesDay_116, eX5_goesDay_119, eX5_goesDay_122, evb_some, evm_some, evc_some, evc_none, gd, if_true, if_false, eq_self, and_self, and_true, true_and, ne_eq, not_false_eq_true, or_true, true_or, mg, mf0, mf1, mf2, mf3, mf4, mf5, mf6, mf7, mf8, mf9, mf10, mf11, mf12, mf13, mf14, mf15, mf16, mf17, mf18, mf19, mf20, mf21, mf22, mf23, mf24, mf25, mf26, mf27, ma54, ma55, ma56, ma57, ma58, ma59, ma60, ma61, ma62, ma63, ma64, ma65, ma66, ma67, ma68, ma69, ma70, ma71, l8, k8, if_pos c1, if_neg q, w32_k1 (show k < 2147483647 by omega), itr, ih2]
        rw [giF, if_neg q]
  have hca : ∀ (n k : Nat) (e : ST) (z : AV), DW e → k + n = (e.1 1).toNat → ev X m_X5_goesDay 12 [vR 53, vI 0, vI (k : Int)] [] (mpt mem g e) = ev X m_X5_goesDay 47 [vR 53, vI 0, vI 0] [] (mpt mem g (itr caF n k e)) := by
    intro n
    induction n with
    | zero =>
      intro k e z he hk
      have c1 : ¬ (k : Int) < e.1 1 := by have := he.2.2.1; omega
      rw [eX5_goesDay_12]
      simp only [eX5_goesDay_0, eX5_goesDay_1, eX5_goesDay_1r, eX5_goesDay_2, eX5_goesDay_5, eX5_goesDay_6, eX5_goesDay_7, eX5_goesDay_10, eX5_goesDay_11, eX5_goesDay_13, eX5_goesDay_14, eX5_goesDay_17, eX5_goesDay_20, eX5_goesDay_21, eX5_goesDay_24, eX5_goesDay_25, eX5_goesDay_28, eX5_goesDay_29, eX5_goesDay_30, eX5_goesDay_31, eX5_goesDay_34, eX5_goesDay_35, eX5_goesDay_36, eX5_goesDay_39, eX5_goesDay_42, eX5_goesDay_45, eX5_goesDay_46, eX5_goesDay_48, eX5_goesDay_49, eX5_goesDay_52, eX5_goesDay_55, eX5_goesDay_56, eX5_goesDay_59, eX5_goesDay_60, eX5_goesDay_61, eX5_goesDay_64, eX5_goesDay_65, eX5_goesDay_66, eX5_goesDay_69, eX5_goesDay_72, eX5_goesDay_75, eX5_goesDay_76, eX5_goesDay_78, eX5_goesDay_80, eX5_goesDay_83, eX5_goesDay_84, eX5_goesDay_87, eX5_goesDay_89, eX5_goesDay_90, eX5_goesDay_93, eX5_goesDay_94, eX5_goesDay_97, eX5_goesDay_98, eX5_goesDay_99, eX5_goesDay_100, eX5_goesDay_101, eX5_goesDay_104, eX5_goesDay_105, eX5_goesDay_106, eX5_goesDay_109, eX5_goesDay_110, eX5_goesDay_113, eX5_goesDay_114, eX5_goesDay_115, eX5_goesDay_116, eX5_goesDay_119, eX5_goesDay_122, evb_some, evm_some, evc_some, evc_none, gd, if_true, if_false, eq_self, and_self, and_true, true_and, ne_eq, not_false_eq_true, or_true, true_or, mg, mf0, mf1, mf2, mf3, mf4, mf5, mf6, mf7, mf8, mf9, mf10, mf11, mf12, mf13, mf14, mf15, mf16, mf17, mf18, mf19, mf20, mf21, mf22, mf23, mf24, mf25, mf26, mf27, if_neg c1, itr]
    | succ n ih =>
      intro k e z he hk
      have c1 : (k : Int) < e.1 1 := by have := he.2.2.1; omega
      have k8 : k < 8 := by have := he.2.2.1; omega
      have l8 : (e.2 8).length = 8 := he.1.2.2.2.2.2.2.2.1
      have ih2 := ih (k + 1) (caF k e) z (DW_caF he c1) (by rw [caF_1]; omega)
      rw [eX5_goesDay_12]
      by_cases q : (e.2 8).getD k 0 = 1
      · have ht := T5_comesNearer (X := X) (mem := mem) (g := g) he c1 q
        simp only [eX5_goesDay_0, eX5_goesDay_1, eX5_goesDay_1r, eX5_goesDay_2, eX5_goesDay_5, eX5_goesDay_6, eX5_goesDay_7, eX5_goesDay_10, eX5_goesDay_11, eX5_goesDay_13, eX5_goesDay_14, eX5_goesDay_17, eX5_goesDay_20, eX5_goesDay_21, eX5_goesDay_24, eX5_goesDay_25, eX5_goesDay_28, eX5_goesDay_29, eX5_goesDay_30, eX5_goesDay_31, eX5_goesDay_34, eX5_goesDay_35, eX5_goesDay_36, eX5_goesDay_39, eX5_goesDay_42, eX5_goesDay_45, eX5_goesDay_46, eX5_goesDay_48, eX5_goesDay_49, eX5_goesDay_52, eX5_goesDay_55, eX5_goesDay_56, eX5_goesDay_59, eX5_goesDay_60, eX5_goesDay_61, eX5_goesDay_64, eX5_goesDay_65, eX5_goesDay_66, eX5_goesDay_69, eX5_goesDay_72, eX5_goesDay_75, eX5_goesDay_76, eX5_goesDay_78, eX5_goesDay_80, eX5_goesDay_83, eX5_goesDay_84, eX5_goesDay_87, eX5_goesDay_89, eX5_goesDay_90, eX5_goesDay_93, eX5_goesDay_94, eX5_goesDay_97, eX5_goesDay_98, eX5_goesDay_99, eX5_goesDay_100, eX5_goesDay_101, eX5_goesDay_104, eX5_goesDay_105, eX5_goesDay_106, eX5_goesDay_109, eX5_goesDay_110, eX5_goesDay_113, eX5_goesDay_114, eX5_goesDay_115, eX5_goesDay_116, eX5_goesDay_119, eX5_goesDay_122, evb_some, evm_some, evc_some, evc_none, gd, if_true, if_false, eq_self, and_self, and_true, true_and, ne_eq, not_false_eq_true, or_true, true_or, mg, mf0, mf1, mf2, mf3, mf4, mf5, mf6, mf7, mf8, mf9, mf10, mf11, mf12, mf13, mf14, mf15, mf16, mf17, mf18, mf19, mf20, mf21, mf22, mf23, mf24, mf25, mf26, mf27, ma54, ma55, ma56, ma57, ma58, ma59, ma60, ma61, ma62, ma63, ma64, ma65, ma66, ma67, ma68, ma69, ma70, ma71, l8, k8, if_pos c1, if_pos q, ht, w32_k1 (show k < 2147483647 by omega), itr, ih2]
      · rw [caF, if_neg q] at ih2
        simp only [eX5_goesDay_0, eX5_goesDay_1, eX5_goesDay_1r, eX5_goesDay_2, eX5_goesDay_5, eX5_goesDay_6, eX5_goesDay_7, eX5_goesDay_10, eX5_goesDay_11, eX5_goesDay_13, eX5_goesDay_14, eX5_goesDay_17, eX5_goesDay_20, eX5_goesDay_21, eX5_goesDay_24, eX5_goesDay_25, eX5_goesDay_28, eX5_goesDay_29, eX5_goesDay_30, eX5_goesDay_31, eX5_goesDay_34, eX5_goesDay_35, eX5_goesDay_36, eX5_goesDay_39, eX5_goesDay_42, eX5_goesDay_45, eX5_goesDay_46, eX5_goesDay_48, eX5_goesDay_49, eX5_goesDay_52, eX5_goesDay_55, eX5_goesDay_56, eX5_goesDay_59, eX5_goesDay_60, eX5_goesDay_61, eX5_goesDay_64, eX5_goesDay_65, eX5_goesDay_66, eX5_goesDay_69, eX5_goesDay_72, eX5_goesDay_75, eX5_goesDay_76, eX5_goesDay_78, eX5_goesDay_80, eX5_goesDay_83, eX5_goesDay_84, eX5_goesDay_87, eX5_goesDay_89, eX5_goesDay_90, eX5_goesDay_93, eX5_goesDay_94, eX5_goesDay_97, eX5_goesDay_98, eX5_goesDay_99, eX5_goesDay_100, eX5_goesDay_101, eX5_goesDay_104, eX5_goesDay_105, eX5_goesDay_106, eX5_goesDay_109, eX5_goesDay_110, eX5_goesDay_113, eX5_goesDay_114, eX5_goesDay_115, eX5_goesDay_116, eX5_goesDay_119, eX5_goesDay_122, evb_some, evm_some, evc_some, evc_none, gd, if_true, if_false, eq_self, and_self, and_true, true_and, ne_eq, not_false_eq_true, or_true, true_or, mg, mf0, mf1, mf2, mf3, mf4, mf5, mf6, mf7, mf8, mf9, mf10, mf11, mf12, mf13, mf14, mf15, mf16, mf17, mf18, mf19, mf20, mf21, mf22, mf23, mf24, mf25, mf26, mf27, ma54, ma55, ma56, ma57, ma58, ma59, ma60, ma61, ma62, ma63, ma64, ma65, ma66, ma67, ma68, ma69, ma70, ma71, l8, k8, if_pos c1, if_neg q, w32_k1 (show k < 2147483647 by omega), itr, ih2]
        rw [caF, if_neg q]
  have hfin : ∀ (e : ST) (f : Int), DW e → ev X m_X5_goesDay 77 [vR 53, vI f, vI 0] [] (mpt mem g e) = some (none, mpt mem g (if w32 ((e.1 2).tmod 7) = 0 then coo e else e)) := by
    intro e f he
    have e0 : setL e 5 (e.2 5) = e := ST_ext (fun _ => rfl) (fun j => by simp only [setL_2]; split <;> simp_all)
    have h5 : ∀ j, w32 ((e.2 5).getD j 0) = (e.2 5).getD j 0 := by
      intro j
      rcases Nat.lt_or_ge j 36 with q | q
      · have h7 := he.2.2.2.2.2.1 (j / 6) (j % 6) (by omega) (by omega)
        unfold hat at h7
        rw [show 6 * (j / 6) + j % 6 = j by omega] at h7
        exact w32_id (by omega) (by omega)
      · rw [List.getD_eq_getElem?_getD, List.getElem?_eq_none (by rw [he.1.2.2.2.2.1]; exact q)]
        decide
    have h6 := hwk 36 0 (e.2 5) e f vS h5 he.1.2.2.2.2.1 (by omega)
    rw [e0] at h6
    exact h6
  cases s with
  | true =>
    have h3 := itr_giF h1 (d.1 1).toNat 0 (by rw [setS_1]; simp)
    have e1 := hgi (d.1 1).toNat 0 (setS d 2 (w32 (d.1 2 + 1))) 1 vS h1 (by rw [setS_1]; simp)
    have e2 := hfin (itr giF (d.1 1).toNat 0 (setS d 2 (w32 (d.1 2 + 1)))) 1 h3.1
    rw [show (itr giF (d.1 1).toNat 0 (setS d 2 (w32 (d.1 2 + 1)))).1 2 = w32 (d.1 2 + 1) by rw [h3.2]; rfl] at e2
    refine Eq.trans (b := ev X m_X5_goesDay 47 [vR 53, vI 1, vI 0] [] (mpt mem g (setS d 2 (w32 (d.1 2 + 1))))) ?_ (e1.trans (e2.trans ?_))
    · by_cases c1 : (0 : Int) < d.1 1
      · simp only [eX5_goesDay_0, eX5_goesDay_1, eX5_goesDay_1r, eX5_goesDay_2, eX5_goesDay_5, eX5_goesDay_6, eX5_goesDay_7, eX5_goesDay_10, eX5_goesDay_11, eX5_goesDay_12, eX5_goesDay_13, eX5_goesDay_14, eX5_goesDay_17, eX5_goesDay_20, eX5_goesDay_21, eX5_goesDay_24, eX5_goesDay_25, eX5_goesDay_28, eX5_goesDay_29, eX5_goesDay_30, eX5_goesDay_31, eX5_goesDay_34, eX5_goesDay_35, eX5_goesDay_36, eX5_goesDay_39, eX5_goesDay_42, eX5_goesDay_45, eX5_goesDay_46, eX5_goesDay_48, eX5_goesDay_49, eX5_goesDay_52, eX5_goesDay_55, eX5_goesDay_56, eX5_goesDay_59, eX5_goesDay_60, eX5_goesDay_61, eX5_goesDay_64, eX5_goesDay_65, eX5_goesDay_66, eX5_goesDay_69, eX5_goesDay_72, eX5_goesDay_75, eX5_goesDay_76, eX5_goesDay_78, eX5_goesDay_80, eX5_goesDay_83, eX5_goesDay_84, eX5_goesDay_87, eX5_goesDay_89, eX5_goesDay_90, eX5_goesDay_93, eX5_goesDay_94, eX5_goesDay_97, eX5_goesDay_98, eX5_goesDay_99, eX5_goesDay_100, eX5_goesDay_101, eX5_goesDay_104, eX5_goesDay_105, eX5_goesDay_106, eX5_goesDay_109, eX5_goesDay_110, eX5_goesDay_113, eX5_goesDay_114, eX5_goesDay_115, eX5_goesDay_116, eX5_goesDay_119, eX5_goesDay_122, evb_some, evm_some, evc_some, evc_none, gd, if_true, if_false, eq_self, and_self, and_true, true_and, ne_eq, not_false_eq_true, or_true, true_or, mg, mf0, mf1, mf2, mf3, mf4, mf5, mf6, mf7, mf8, mf9, mf10, mf11, mf12, mf13, mf14, mf15, mf16, mf17, mf18, mf19, mf20, mf21, mf22, mf23, mf24, mf25, mf26, mf27, mw11, mw12, mw13, mw18, mw19, mw20, mw22, mw23, mw24, mw27, mx54, mx55, mx56, mx57, mx58, mx59, mx60, mx61, mx62, mx63, mx64, mx65, mx66, mx67, mx68, mx69, mx70, mx71, setS_1, setS_2, setL_1, setL_2, Nat.reduceEqDiff, ↓reduceIte, List.length_set, if_pos c1, show ¬ (1 : Int) = 0 by decide]
      · simp only [eX5_goesDay_0, eX5_goesDay_1, eX5_goesDay_1r, eX5_goesDay_2, eX5_goesDay_5, eX5_goesDay_6, eX5_goesDay_7, eX5_goesDay_10, eX5_goesDay_11, eX5_goesDay_12, eX5_goesDay_13, eX5_goesDay_14, eX5_goesDay_17, eX5_goesDay_20, eX5_goesDay_21, eX5_goesDay_24, eX5_goesDay_25, eX5_goesDay_28, eX5_goesDay_29, eX5_goesDay_30, eX5_goesDay_31, eX5_goesDay_34, eX5_goesDay_35, eX5_goesDay_36, eX5_goesDay_39, eX5_goesDay_42, eX5_goesDay_45, eX5_goesDay_46, eX5_goesDay_48, eX5_goesDay_49, eX5_goesDay_52, eX5_goesDay_55, eX5_goesDay_56, eX5_goesDay_59, eX5_goesDay_60, eX5_goesDay_61, eX5_goesDay_64, eX5_goesDay_65, eX5_goesDay_66, eX5_goesDay_69, eX5_goesDay_72, eX5_goesDay_75, eX5_goesDay_76, eX5_goesDay_78, eX5_goesDay_80, eX5_goesDay_83, eX5_goesDay_84, eX5_goesDay_87, eX5_goesDay_89, eX5_goesDay_90, eX5_goesDay_93, eX5_goesDay_94, eX5_goesDay_97, eX5_goesDay_98, eX5_goesDay_99, eX5_goesDay_100, eX5_goesDay_101, eX5_goesDay_104, eX5_goesDay_105, eX5_goesDay_106, eX5_goesDay_109, eX5_goesDay_110, eX5_goesDay_113, eX5_goesDay_114, eX5_goesDay_115, eX5_goesDay_116, eX5_goesDay_119, eX5_goesDay_122, evb_some, evm_some, evc_some, evc_none, gd, if_true, if_false, eq_self, and_self, and_true, true_and, ne_eq, not_false_eq_true, or_true, true_or, mg, mf0, mf1, mf2, mf3, mf4, mf5, mf6, mf7, mf8, mf9, mf10, mf11, mf12, mf13, mf14, mf15, mf16, mf17, mf18, mf19, mf20, mf21, mf22, mf23, mf24, mf25, mf26, mf27, mw11, mw12, mw13, mw18, mw19, mw20, mw22, mw23, mw24, mw27, mx54, mx55, mx56, mx57, mx58, mx59, mx60, mx61, mx62, mx63, mx64, mx65, mx66, mx67, mx68, mx69, mx70, mx71, setS_1, setS_2, setL_1, setL_2, Nat.reduceEqDiff, ↓reduceIte, List.length_set, if_neg c1]
    · unfold pday
      dsimp only
      rw [if_pos rfl]
  | false =>
    have h2 := itr_caF h1 (d.1 1).toNat 0 (by rw [setS_1]; simp)
    have h3 := itr_giF h2.1 (d.1 1).toNat 0 (by rw [h2.2, setS_1]; simp)
    have e0 := hca (d.1 1).toNat 0 (setS d 2 (w32 (d.1 2 + 1))) vS h1 (by rw [setS_1]; simp)
    have e1 := hgi (d.1 1).toNat 0 (itr caF (d.1 1).toNat 0 (setS d 2 (w32 (d.1 2 + 1)))) 0 vS h2.1 (by rw [h2.2, setS_1]; simp)
    have e2 := hfin (itr giF (d.1 1).toNat 0 (itr caF (d.1 1).toNat 0 (setS d 2 (w32 (d.1 2 + 1))))) 0 h3.1
    rw [show (itr giF (d.1 1).toNat 0 (itr caF (d.1 1).toNat 0 (setS d 2 (w32 (d.1 2 + 1))))).1 2 = w32 (d.1 2 + 1) by rw [h3.2, h2.2]; rfl] at e2
    refine Eq.trans (b := ev X m_X5_goesDay 12 [vR 53, vI 0, vI 0] [] (mpt mem g (setS d 2 (w32 (d.1 2 + 1))))) ?_ (e0.trans (e1.trans (e2.trans ?_)))
    · simp only [eX5_goesDay_0, eX5_goesDay_1, eX5_goesDay_1r, eX5_goesDay_2, eX5_goesDay_5, eX5_goesDay_6, eX5_goesDay_7, eX5_goesDay_10, eX5_goesDay_11, eX5_goesDay_13, eX5_goesDay_14, eX5_goesDay_17, eX5_goesDay_20, eX5_goesDay_21, eX5_goesDay_24, eX5_goesDay_25, eX5_goesDay_28, eX5_goesDay_29, eX5_goesDay_30, eX5_goesDay_31, eX5_goesDay_34, eX5_goesDay_35, eX5_goesDay_36, eX5_goesDay_39, eX5_goesDay_42, eX5_goesDay_45, eX5_goesDay_46, eX5_goesDay_48, eX5_goesDay_49, eX5_goesDay_52, eX5_goesDay_55, eX5_goesDay_56, eX5_goesDay_59, eX5_goesDay_60, eX5_goesDay_61, eX5_goesDay_64, eX5_goesDay_65, eX5_goesDay_66, eX5_goesDay_69, eX5_goesDay_72, eX5_goesDay_75, eX5_goesDay_76, eX5_goesDay_78, eX5_goesDay_80, eX5_goesDay_83, eX5_goesDay_84, eX5_goesDay_87, eX5_goesDay_89, eX5_goesDay_90, eX5_goesDay_93, eX5_goesDay_94, eX5_goesDay_97, eX5_goesDay_98, eX5_goesDay_99, eX5_goesDay_100, eX5_goesDay_101, eX5_goesDay_104, eX5_goesDay_105, eX5_goesDay_106, eX5_goesDay_109, eX5_goesDay_110, eX5_goesDay_113, eX5_goesDay_114, eX5_goesDay_115, eX5_goesDay_116, eX5_goesDay_119, eX5_goesDay_122, evb_some, evm_some, evc_some, evc_none, gd, if_true, if_false, eq_self, and_self, and_true, true_and, ne_eq, not_false_eq_true, or_true, true_or, mg, mf0, mf1, mf2, mf3, mf4, mf5, mf6, mf7, mf8, mf9, mf10, mf11, mf12, mf13, mf14, mf15, mf16, mf17, mf18, mf19, mf20, mf21, mf22, mf23, mf24, mf25, mf26, mf27, mw11, mw12, mw13, mw18, mw19, mw20, mw22, mw23, mw24, mw27, mx54, mx55, mx56, mx57, mx58, mx59, mx60, mx61, mx62, mx63, mx64, mx65, mx66, mx67, mx68, mx69, mx70, mx71, setS_1, setS_2, setL_1, setL_2, Nat.reduceEqDiff, ↓reduceIte, List.length_set, Bool.false_eq_true]
    · unfold pday
      simp only [Bool.false_eq_true, if_false]
theorem T5_goesDay0 (h : DW d) {y1 : AV} : ev X m_X5_goesDay 0 [vR 53, vI 0, y1] [] (mpt mem g d) = some (none, mpt mem g (pday false d)) := T5_goesDay (y1 := y1) h false
theorem T5_goes (h : DW d) {n : Nat} (hn : n < 2147483647) {z : AV} : ev X m_X5_goes 0 [vR 53, vI (n : Int), z] [] (mpt mem g d) = some (none, mpt mem g (pdays n d)) := by
  have key : ∀ (m k : Nat) (d : ST), DW d → k + m = n → ev X m_X5_goes 2 [vR 53, vI (n : Int), vI (k : Int)] [] (mpt mem g d) = some (none, mpt mem g (itr (fun _ e => pday false e) m k d)) := by
    intro m
    induction m with
    | zero =>
      intro k d h hk
      have c1 : ¬ (k : Int) < (n : Int) := by omega
      rw [eX5_goes_2]
      simp only [eX5_goes_0, eX5_goes_1, eX5_goes_3, eX5_goes_4, eX5_goes_7, eX5_goes_8, eX5_goes_9, eX5_goes_12, eX5_goes_15, eX5_goes_18, evb_some, evm_some, evc_some, evc_none, gd, if_true, if_false, eq_self, and_self, and_true, true_and, ne_eq, not_false_eq_true, or_true, true_or, if_neg c1, itr]
    | succ m ih =>
      intro k d h hk
      have c1 : (k : Int) < (n : Int) := by omega
      have hp := T5_goesDay0 (X := X) (mem := mem) (g := g) (y1 := vS) h
      rw [eX5_goes_2]
      simp only [eX5_goes_0, eX5_goes_1, eX5_goes_3, eX5_goes_4, eX5_goes_7, eX5_goes_8, eX5_goes_9, eX5_goes_12, eX5_goes_15, eX5_goes_18, evb_some, evm_some, evc_some, evc_none, gd, if_true, if_false, eq_self, and_self, and_true, true_and, ne_eq, not_false_eq_true, or_true, true_or, mg, mf0, mf1, mf2, mf3, mf4, mf5, mf6, mf7, mf8, mf9, mf10, mf11, mf12, mf13, mf14, mf15, mf16, mf17, mf18, mf19, mf20, mf21, mf22, mf23, mf24, mf25, mf26, mf27, if_pos c1, hp, w32_k1 (show k < 2147483647 by omega), itr]
      exact ih _ _ (pday_ok h false).1 (by omega)
  exact Eq.trans (by simp only [eX5_goes_0, eX5_goes_1]; rfl) (key n 0 d h (by omega))
theorem or32_0 {s : Int} (h : w32 s = s) : or32 s 0 = s := by
  unfold or32
  rw [show Int32.ofInt 0 = 0 from rfl, Int32.or_zero]
  exact h
theorem bitF_w (x : Int) {k : Nat} {s : Int} (h : w32 s = s) : w32 (bitF d x k s) = bitF d x k s := by
  unfold bitF
  split
  · exact w32_t _
  · exact h
theorem T5_thoseIn (hL : DL d) (h8 : d.1 1 ≤ 8) {x : Int} {y1 y2 : AV} : ev X m_X5_thoseIn 0 [vR 53, vI x, y1, y2] [] (mpt mem g d) = some (some (vI (thS d x)), mpt mem g d) := by
  obtain ⟨l1, l2, l3, l4, l5, l6, l7, l8, l9, l10⟩ := hL
  have key : ∀ (n k : Nat) (s : Int), w32 s = s → k + n = (d.1 1).toNat → ev X m_X5_thoseIn 4 [vR 53, vI x, vI s, vI (k : Int)] [] (mpt mem g d) = some (some (vI (itr (bitF d x) n k s)), mpt mem g d) := by
    intro n
    induction n with
    | zero =>
      intro k s hs hk
      have c1 : ¬ (k : Int) < d.1 1 := by omega
      rw [eX5_thoseIn_4]
      simp only [eX5_thoseIn_0, eX5_thoseIn_1, eX5_thoseIn_2, eX5_thoseIn_3, eX5_thoseIn_5, eX5_thoseIn_6, eX5_thoseIn_9, eX5_thoseIn_12, eX5_thoseIn_13, eX5_thoseIn_14, eX5_thoseIn_17, eX5_thoseIn_18, eX5_thoseIn_19, eX5_thoseIn_20, eX5_thoseIn_23, eX5_thoseIn_24, eX5_thoseIn_25, eX5_thoseIn_26, eX5_thoseIn_29, eX5_thoseIn_30, eX5_thoseIn_31, eX5_thoseIn_32, eX5_thoseIn_35, eX5_thoseIn_38, eX5_thoseIn_39, evb_some, evm_some, evc_some, evc_none, gd, if_true, if_false, eq_self, and_self, and_true, true_and, ne_eq, not_false_eq_true, or_true, true_or, mg, mf0, mf1, mf2, mf3, mf4, mf5, mf6, mf7, mf8, mf9, mf10, mf11, mf12, mf13, mf14, mf15, mf16, mf17, mf18, mf19, mf20, mf21, mf22, mf23, mf24, mf25, mf26, mf27, if_neg c1, itr]
    | succ n ih =>
      intro k s hs hk
      have c1 : (k : Int) < d.1 1 := by omega
      have k8 : k < 8 := by omega
      have ih2 := ih (k + 1) (bitF d x k s) (bitF_w x hs) (by omega)
      rw [eX5_thoseIn_4]
      by_cases q : (d.2 8).getD k 0 = x
      · rw [bitF, if_pos q] at ih2
        simp only [eX5_thoseIn_0, eX5_thoseIn_1, eX5_thoseIn_2, eX5_thoseIn_3, eX5_thoseIn_5, eX5_thoseIn_6, eX5_thoseIn_9, eX5_thoseIn_12, eX5_thoseIn_13, eX5_thoseIn_14, eX5_thoseIn_17, eX5_thoseIn_18, eX5_thoseIn_19, eX5_thoseIn_20, eX5_thoseIn_23, eX5_thoseIn_24, eX5_thoseIn_25, eX5_thoseIn_26, eX5_thoseIn_29, eX5_thoseIn_30, eX5_thoseIn_31, eX5_thoseIn_32, eX5_thoseIn_35, eX5_thoseIn_38, eX5_thoseIn_39, evb_some, evm_some, evc_some, evc_none, gd, if_true, if_false, eq_self, and_self, and_true, true_and, ne_eq, not_false_eq_true, or_true, true_or, mg, mf0, mf1, mf2, mf3, mf4, mf5, mf6, mf7, mf8, mf9, mf10, mf11, mf12, mf13, mf14, mf15, mf16, mf17, mf18, mf19, mf20, mf21, mf22, mf23, mf24, mf25, mf26, mf27, ma54, ma55, ma56, ma57, ma58, ma59, ma60, ma61, ma62, ma63, ma64, ma65, ma66, ma67, ma68, ma69, ma70, ma71, l8, k8, if_pos c1, if_pos q, w32_k1 (show k < 2147483647 by omega), itr, ih2]
        rw [bitF, if_pos q]
      · rw [bitF, if_neg q] at ih2
        simp only [eX5_thoseIn_0, eX5_thoseIn_1, eX5_thoseIn_2, eX5_thoseIn_3, eX5_thoseIn_5, eX5_thoseIn_6, eX5_thoseIn_9, eX5_thoseIn_12, eX5_thoseIn_13, eX5_thoseIn_14, eX5_thoseIn_17, eX5_thoseIn_18, eX5_thoseIn_19, eX5_thoseIn_20, eX5_thoseIn_23, eX5_thoseIn_24, eX5_thoseIn_25, eX5_thoseIn_26, eX5_thoseIn_29, eX5_thoseIn_30, eX5_thoseIn_31, eX5_thoseIn_32, eX5_thoseIn_35, eX5_thoseIn_38, eX5_thoseIn_39, evb_some, evm_some, evc_some, evc_none, gd, if_true, if_false, eq_self, and_self, and_true, true_and, ne_eq, not_false_eq_true, or_true, true_or, mg, mf0, mf1, mf2, mf3, mf4, mf5, mf6, mf7, mf8, mf9, mf10, mf11, mf12, mf13, mf14, mf15, mf16, mf17, mf18, mf19, mf20, mf21, mf22, mf23, mf24, mf25, mf26, mf27, ma54, ma55, ma56, ma57, ma58, ma59, ma60, ma61, ma62, ma63, ma64, ma65, ma66, ma67, ma68, ma69, ma70, ma71, l8, k8, if_pos c1, if_neg q, or32_0 hs, w32_k1 (show k < 2147483647 by omega), itr, ih2]
        rw [bitF, if_neg q]
  exact Eq.trans (by simp only [eX5_thoseIn_0, eX5_thoseIn_1, eX5_thoseIn_2, eX5_thoseIn_3]; rfl) (key _ 0 0 (by decide) (by omega))
theorem T5_allHate (hL : DL d) {y1 y2 : AV} : ev X m_X5_allHate 0 [vR 53, y1, y2] [] (mpt mem g d) = some (some (vI (sumH d)), mpt mem g d) := by
  obtain ⟨l1, l2, l3, l4, l5, l6, l7, l8, l9, l10⟩ := hL
  have key : ∀ (n k : Nat) (s : Int), k + n = 36 → ev X m_X5_allHate 4 [vR 53, vI s, vI (k : Int)] [] (mpt mem g d) = some (some (vI (itr (fun k s => w32 (s + (d.2 5).getD k 0)) n k s)), mpt mem g d) := by
    intro n
    induction n with
    | zero =>
      intro k s hk
      have c1 : ¬ (k : Int) < 36 := by omega
      rw [eX5_allHate_4]
      simp only [eX5_allHate_0, eX5_allHate_1, eX5_allHate_2, eX5_allHate_3, eX5_allHate_5, eX5_allHate_7, eX5_allHate_10, eX5_allHate_11, eX5_allHate_12, eX5_allHate_15, eX5_allHate_16, eX5_allHate_17, eX5_allHate_18, eX5_allHate_19, eX5_allHate_22, eX5_allHate_25, eX5_allHate_26, evb_some, evm_some, evc_some, evc_none, gd, if_true, if_false, eq_self, and_self, and_true, true_and, ne_eq, not_false_eq_true, or_true, true_or, mg, mf0, mf1, mf2, mf3, mf4, mf5, mf6, mf7, mf8, mf9, mf10, mf11, mf12, mf13, mf14, mf15, mf16, mf17, mf18, mf19, mf20, mf21, mf22, mf23, mf24, mf25, mf26, mf27, if_neg c1, itr]
    | succ n ih =>
      intro k s hk
      have c1 : (k : Int) < 36 := by omega
      have k8 : k < 36 := by omega
      rw [eX5_allHate_4]
      simp only [eX5_allHate_0, eX5_allHate_1, eX5_allHate_2, eX5_allHate_3, eX5_allHate_5, eX5_allHate_7, eX5_allHate_10, eX5_allHate_11, eX5_allHate_12, eX5_allHate_15, eX5_allHate_16, eX5_allHate_17, eX5_allHate_18, eX5_allHate_19, eX5_allHate_22, eX5_allHate_25, eX5_allHate_26, evb_some, evm_some, evc_some, evc_none, gd, if_true, if_false, eq_self, and_self, and_true, true_and, ne_eq, not_false_eq_true, or_true, true_or, mg, mf0, mf1, mf2, mf3, mf4, mf5, mf6, mf7, mf8, mf9, mf10, mf11, mf12, mf13, mf14, mf15, mf16, mf17, mf18, mf19, mf20, mf21, mf22, mf23, mf24, mf25, mf26, mf27, ma54, ma55, ma56, ma57, ma58, ma59, ma60, ma61, ma62, ma63, ma64, ma65, ma66, ma67, ma68, ma69, ma70, ma71, l5, k8, if_pos c1, w32_k1 (show k < 2147483647 by omega), itr]
      exact ih _ _ (by omega)
  exact Eq.trans (by simp only [eX5_allHate_0, eX5_allHate_1, eX5_allHate_2, eX5_allHate_3]; rfl) (key _ 0 0 (by omega))
end MD
