/-! TWO -/
section TW
variable {X : List Int} {mem : AM} {n t mi la g gm d : ST}
/-- how many of one's PARCELS are BROUGHT -/
def btF (d : ST) (p : Nat) (k : Nat) (s : Nat) : Nat := if (d.2 8).getD k 0 = 2 then (if (d.2 6).getD k 0 = (p : Int) then s + 1 else s) else s
def btS (d : ST) (p : Nat) : Nat := itr (btF d p) (d.1 1).toNat 0 0
theorem T3_broughtTo (h : DW d) {p : Nat} : ev X m_X3_broughtTo 0 [vR 23, vI (p : Int), vS, vS] [] (cpt mem n t d la g) = some (some (vI ((btS d p : Nat) : Int)), cpt mem n t d la g) := by
  have h8 := h.2.2.1.2
  have h9 := h.2.2.1.1
  have key : ∀ (m k s : Nat), s ≤ k → k + m = (d.1 1).toNat → ev X m_X3_broughtTo 4 [vR 23, vI (p : Int), vI (s : Int), vI (k : Int)] [] (cpt mem n t d la g) = some (some (vI ((itr (btF d p) m k s : Nat) : Int)), cpt mem n t d la g) := by
    intro m
    induction m with
    | zero =>
      intro k s hs hk
      have c1 : ¬ (k : Int) < d.1 1 := by omega
      rw [eX3_broughtTo_4]
      simp only [eX3_broughtTo_0, eX3_broughtTo_1, eX3_broughtTo_2, eX3_broughtTo_3, eX3_broughtTo_5, eX3_broughtTo_6, eX3_broughtTo_9, eX3_broughtTo_12, eX3_broughtTo_15, eX3_broughtTo_16, eX3_broughtTo_19, eX3_broughtTo_20, eX3_broughtTo_23, eX3_broughtTo_24, eX3_broughtTo_27, eX3_broughtTo_28, eX3_broughtTo_31, eX3_broughtTo_32, eX3_broughtTo_35, eX3_broughtTo_36, eX3_broughtTo_39, eX3_broughtTo_42, eX3_broughtTo_45, eX3_broughtTo_48, eX3_broughtTo_49, evb_some, evm_some, evc_some, evc_none, gd, if_true, if_false, eq_self, and_self, and_true, true_and, ne_eq, not_false_eq_true, or_true, true_or, cf0_0, cf0_1, cf0_2, cf0_3, cf0_4, cf0_5, cf0_6, cf23_0, cf23_1, cf23_2, cf23_3, cf48_0, cf48_1, cf50_0, cf50_1, cg0, cg23, cg48, cg50, cg1, cg12, cg24, cg35, Int.reduceEq, Int.reduceLT, Int.reduceLE, ↓reduceIte, q1_0, q1_1, q1_2, q1_3, q1_4, q1_5, q1_6, q1_7, q1_8, q1_9, q1_10, q1_11, q1_12, q12_0, q12_1, q12_2, q12_3, q12_4, q12_5, q12_6, q12_7, q12_8, q12_9, q12_10, q12_11, q12_12, q24_0, q24_1, q24_2, q24_3, q24_4, q24_5, q24_6, q24_7, q24_8, q24_9, q24_10, q24_11, q24_12, q35_0, q35_1, q35_2, q35_3, q35_4, q35_5, q35_6, q35_7, q35_8, q35_9, q35_10, q35_11, q35_12, c1, itr]
    | succ m ih =>
      intro k s hs hk
      have c1 : (k : Int) < d.1 1 := by omega
      rw [eX3_broughtTo_4]
      by_cases q : (d.2 8).getD k 0 = 2
      · by_cases q2 : (d.2 6).getD k 0 = (p : Int)
        · simp only [eX3_broughtTo_0, eX3_broughtTo_1, eX3_broughtTo_2, eX3_broughtTo_3, eX3_broughtTo_5, eX3_broughtTo_6, eX3_broughtTo_9, eX3_broughtTo_12, eX3_broughtTo_15, eX3_broughtTo_16, eX3_broughtTo_19, eX3_broughtTo_20, eX3_broughtTo_23, eX3_broughtTo_24, eX3_broughtTo_27, eX3_broughtTo_28, eX3_broughtTo_31, eX3_broughtTo_32, eX3_broughtTo_35, eX3_broughtTo_36, eX3_broughtTo_39, eX3_broughtTo_42, eX3_broughtTo_45, eX3_broughtTo_48, eX3_broughtTo_49, evb_some, evm_some, evc_some, evc_none, gd, if_true, if_false, eq_self, and_self, and_true, true_and, ne_eq, not_false_eq_true, or_true, true_or, cf0_0, cf0_1, cf0_2, cf0_3, cf0_4, cf0_5, cf0_6, cf23_0, cf23_1, cf23_2, cf23_3, cf48_0, cf48_1, cf50_0, cf50_1, cg0, cg23, cg48, cg50, cg1, cg12, cg24, cg35, Int.reduceEq, Int.reduceLT, Int.reduceLE, ↓reduceIte, q1_0, q1_1, q1_2, q1_3, q1_4, q1_5, q1_6, q1_7, q1_8, q1_9, q1_10, q1_11, q1_12, q12_0, q12_1, q12_2, q12_3, q12_4, q12_5, q12_6, q12_7, q12_8, q12_9, q12_10, q12_11, q12_12, q24_0, q24_1, q24_2, q24_3, q24_4, q24_5, q24_6, q24_7, q24_8, q24_9, q24_10, q24_11, q24_12, q35_0, q35_1, q35_2, q35_3, q35_4, q35_5, q35_6, q35_7, q35_8, q35_9, q35_10, q35_11, q35_12, c1, m_stateOf h.1 c1 h8, m_receiverOf h.1 c1 h8, q, q2, itr, btF, w32_k1 (show k < 2147483647 by omega), w32_k1 (show s < 2147483647 by omega)]
          exact ih _ _ (by omega) (by omega)
        · simp only [eX3_broughtTo_0, eX3_broughtTo_1, eX3_broughtTo_2, eX3_broughtTo_3, eX3_broughtTo_5, eX3_broughtTo_6, eX3_broughtTo_9, eX3_broughtTo_12, eX3_broughtTo_15, eX3_broughtTo_16, eX3_broughtTo_19, eX3_broughtTo_20, eX3_broughtTo_23, eX3_broughtTo_24, eX3_broughtTo_27, eX3_broughtTo_28, eX3_broughtTo_31, eX3_broughtTo_32, eX3_broughtTo_35, eX3_broughtTo_36, eX3_broughtTo_39, eX3_broughtTo_42, eX3_broughtTo_45, eX3_broughtTo_48, eX3_broughtTo_49, evb_some, evm_some, evc_some, evc_none, gd, if_true, if_false, eq_self, and_self, and_true, true_and, ne_eq, not_false_eq_true, or_true, true_or, cf0_0, cf0_1, cf0_2, cf0_3, cf0_4, cf0_5, cf0_6, cf23_0, cf23_1, cf23_2, cf23_3, cf48_0, cf48_1, cf50_0, cf50_1, cg0, cg23, cg48, cg50, cg1, cg12, cg24, cg35, Int.reduceEq, Int.reduceLT, Int.reduceLE, ↓reduceIte, q1_0, q1_1, q1_2, q1_3, q1_4, q1_5, q1_6, q1_7, q1_8, q1_9, q1_10, q1_11, q1_12, q12_0, q12_1, q12_2, q12_3, q12_4, q12_5, q12_6, q12_7, q12_8, q12_9, q12_10, q12_11, q12_12, q24_0, q24_1, q24_2, q24_3, q24_4, q24_5, q24_6, q24_7, q24_8, q24_9, q24_10, q24_11, q24_12, q35_0, q35_1, q35_2, q35_3, q35_4, q35_5, q35_6, q35_7, q35_8, q35_9, q35_10, q35_11, q35_12, c1, m_stateOf h.1 c1 h8, m_receiverOf h.1 c1 h8, q, q2, itr, btF, w32_k1 (show k < 2147483647 by omega)]
          exact ih _ _ (by omega) (by omega)
      · simp only [eX3_broughtTo_0, eX3_broughtTo_1, eX3_broughtTo_2, eX3_broughtTo_3, eX3_broughtTo_5, eX3_broughtTo_6, eX3_broughtTo_9, eX3_broughtTo_12, eX3_broughtTo_15, eX3_broughtTo_16, eX3_broughtTo_19, eX3_broughtTo_20, eX3_broughtTo_23, eX3_broughtTo_24, eX3_broughtTo_27, eX3_broughtTo_28, eX3_broughtTo_31, eX3_broughtTo_32, eX3_broughtTo_35, eX3_broughtTo_36, eX3_broughtTo_39, eX3_broughtTo_42, eX3_broughtTo_45, eX3_broughtTo_48, eX3_broughtTo_49, evb_some, evm_some, evc_some, evc_none, gd, if_true, if_false, eq_self, and_self, and_true, true_and, ne_eq, not_false_eq_true, or_true, true_or, cf0_0, cf0_1, cf0_2, cf0_3, cf0_4, cf0_5, cf0_6, cf23_0, cf23_1, cf23_2, cf23_3, cf48_0, cf48_1, cf50_0, cf50_1, cg0, cg23, cg48, cg50, cg1, cg12, cg24, cg35, Int.reduceEq, Int.reduceLT, Int.reduceLE, ↓reduceIte, q1_0, q1_1, q1_2, q1_3, q1_4, q1_5, q1_6, q1_7, q1_8, q1_9, q1_10, q1_11, q1_12, q12_0, q12_1, q12_2, q12_3, q12_4, q12_5, q12_6, q12_7, q12_8, q12_9, q12_10, q12_11, q12_12, q24_0, q24_1, q24_2, q24_3, q24_4, q24_5, q24_6, q24_7, q24_8, q24_9, q24_10, q24_11, q24_12, q35_0, q35_1, q35_2, q35_3, q35_4, q35_5, q35_6, q35_7, q35_8, q35_9, q35_10, q35_11, q35_12, c1, m_stateOf h.1 c1 h8, q, itr, btF, w32_k1 (show k < 2147483647 by omega)]
        exact ih _ _ (by omega) (by omega)
  exact Eq.trans (by simp only [eX3_broughtTo_0, eX3_broughtTo_1, eX3_broughtTo_2, eX3_broughtTo_3]; rfl) (key _ 0 0 (by omega) (by omega))
theorem T5_broughtTo (h : DW d) {p : Nat} : ev X m_X5_broughtTo 0 [vR 53, vI (p : Int), vS, vS] [] (mpt mem g d) = some (some (vI ((btS d p : Nat) : Int)), mpt mem g d) := by
  have h8 := h.2.2.1.2
  have h9 := h.2.2.1.1
  obtain ⟨l1, l2, l3, l4, l5, l6, l7, l8, l9, l10⟩ := id h.1
  have key : ∀ (m k s : Nat), s ≤ k → k + m = (d.1 1).toNat → ev X m_X5_broughtTo 4 [vR 53, vI (p : Int), vI (s : Int), vI (k : Int)] [] (mpt mem g d) = some (some (vI ((itr (btF d p) m k s : Nat) : Int)), mpt mem g d) := by
    intro m
    induction m with
    | zero =>
      intro k s hs hk
      have c1 : ¬ (k : Int) < d.1 1 := by omega
      rw [eX5_broughtTo_4]
      simp only [eX5_broughtTo_0, eX5_broughtTo_1, eX5_broughtTo_2, eX5_broughtTo_3, eX5_broughtTo_5, eX5_broughtTo_6, eX5_broughtTo_9, eX5_broughtTo_12, eX5_broughtTo_13, eX5_broughtTo_14, eX5_broughtTo_17, eX5_broughtTo_18, eX5_broughtTo_19, eX5_broughtTo_20, eX5_broughtTo_23, eX5_broughtTo_24, eX5_broughtTo_27, eX5_broughtTo_28, eX5_broughtTo_29, eX5_broughtTo_30, eX5_broughtTo_33, eX5_broughtTo_34, eX5_broughtTo_37, eX5_broughtTo_38, eX5_broughtTo_39, eX5_broughtTo_40, eX5_broughtTo_43, eX5_broughtTo_46, eX5_broughtTo_47, evb_some, evm_some, evc_some, evc_none, gd, if_true, if_false, eq_self, and_self, and_true, true_and, ne_eq, not_false_eq_true, or_true, true_or, mg, mf0, mf1, mf2, mf3, mf4, mf5, mf6, mf7, mf8, mf9, mf10, mf11, mf12, mf13, mf14, mf15, mf16, mf17, mf18, mf19, mf20, mf21, mf22, mf23, mf24, mf25, mf26, mf27, ma54, ma55, ma56, ma57, ma58, ma59, ma60, ma61, ma62, ma63, ma64, ma65, ma66, ma67, ma68, ma69, ma70, ma71, Int.reduceEq, Int.reduceLT, Int.reduceLE, ↓reduceIte, c1, itr]
    | succ m ih =>
      intro k s hs hk
      have c1 : (k : Int) < d.1 1 := by omega
      have k8 : k < 8 := by omega
      have w0 := w32_id (show -2147483648 ≤ (s : Int) by omega) (show (s : Int) < 2147483648 by omega)
      rw [eX5_broughtTo_4]
      by_cases q : (d.2 8).getD k 0 = 2
      · by_cases q2 : (d.2 6).getD k 0 = (p : Int)
        · simp only [eX5_broughtTo_0, eX5_broughtTo_1, eX5_broughtTo_2, eX5_broughtTo_3, eX5_broughtTo_5, eX5_broughtTo_6, eX5_broughtTo_9, eX5_broughtTo_12, eX5_broughtTo_13, eX5_broughtTo_14, eX5_broughtTo_17, eX5_broughtTo_18, eX5_broughtTo_19, eX5_broughtTo_20, eX5_broughtTo_23, eX5_broughtTo_24, eX5_broughtTo_27, eX5_broughtTo_28, eX5_broughtTo_29, eX5_broughtTo_30, eX5_broughtTo_33, eX5_broughtTo_34, eX5_broughtTo_37, eX5_broughtTo_38, eX5_broughtTo_39, eX5_broughtTo_40, eX5_broughtTo_43, eX5_broughtTo_46, eX5_broughtTo_47, evb_some, evm_some, evc_some, evc_none, gd, if_true, if_false, eq_self, and_self, and_true, true_and, ne_eq, not_false_eq_true, or_true, true_or, mg, mf0, mf1, mf2, mf3, mf4, mf5, mf6, mf7, mf8, mf9, mf10, mf11, mf12, mf13, mf14, mf15, mf16, mf17, mf18, mf19, mf20, mf21, mf22, mf23, mf24, mf25, mf26, mf27, ma54, ma55, ma56, ma57, ma58, ma59, ma60, ma61, ma62, ma63, ma64, ma65, ma66, ma67, ma68, ma69, ma70, ma71, Int.reduceEq, Int.reduceLT, Int.reduceLE, ↓reduceIte, c1, l6, l8, k8, q, q2, itr, btF, w32_k1 (show k < 2147483647 by omega), w32_k1 (show s < 2147483647 by omega)]
          exact ih _ _ (by omega) (by omega)
        · simp only [eX5_broughtTo_0, eX5_broughtTo_1, eX5_broughtTo_2, eX5_broughtTo_3, eX5_broughtTo_5, eX5_broughtTo_6, eX5_broughtTo_9, eX5_broughtTo_12, eX5_broughtTo_13, eX5_broughtTo_14, eX5_broughtTo_17, eX5_broughtTo_18, eX5_broughtTo_19, eX5_broughtTo_20, eX5_broughtTo_23, eX5_broughtTo_24, eX5_broughtTo_27, eX5_broughtTo_28, eX5_broughtTo_29, eX5_broughtTo_30, eX5_broughtTo_33, eX5_broughtTo_34, eX5_broughtTo_37, eX5_broughtTo_38, eX5_broughtTo_39, eX5_broughtTo_40, eX5_broughtTo_43, eX5_broughtTo_46, eX5_broughtTo_47, evb_some, evm_some, evc_some, evc_none, gd, if_true, if_false, eq_self, and_self, and_true, true_and, ne_eq, not_false_eq_true, or_true, true_or, mg, mf0, mf1, mf2, mf3, mf4, mf5, mf6, mf7, mf8, mf9, mf10, mf11, mf12, mf13, mf14, mf15, mf16, mf17, mf18, mf19, mf20, mf21, mf22, mf23, mf24, mf25, mf26, mf27, ma54, ma55, ma56, ma57, ma58, ma59, ma60, ma61, ma62, ma63, ma64, ma65, ma66, ma67, ma68, ma69, ma70, ma71, Int.reduceEq, Int.reduceLT, Int.reduceLE, ↓reduceIte, c1, l6, l8, k8, q, q2, itr, btF, w32_k1 (show k < 2147483647 by omega), Int.add_zero, w0]
          exact ih _ _ (by omega) (by omega)
      · simp only [eX5_broughtTo_0, eX5_broughtTo_1, eX5_broughtTo_2, eX5_broughtTo_3, eX5_broughtTo_5, eX5_broughtTo_6, eX5_broughtTo_9, eX5_broughtTo_12, eX5_broughtTo_13, eX5_broughtTo_14, eX5_broughtTo_17, eX5_broughtTo_18, eX5_broughtTo_19, eX5_broughtTo_20, eX5_broughtTo_23, eX5_broughtTo_24, eX5_broughtTo_27, eX5_broughtTo_28, eX5_broughtTo_29, eX5_broughtTo_30, eX5_broughtTo_33, eX5_broughtTo_34, eX5_broughtTo_37, eX5_broughtTo_38, eX5_broughtTo_39, eX5_broughtTo_40, eX5_broughtTo_43, eX5_broughtTo_46, eX5_broughtTo_47, evb_some, evm_some, evc_some, evc_none, gd, if_true, if_false, eq_self, and_self, and_true, true_and, ne_eq, not_false_eq_true, or_true, true_or, mg, mf0, mf1, mf2, mf3, mf4, mf5, mf6, mf7, mf8, mf9, mf10, mf11, mf12, mf13, mf14, mf15, mf16, mf17, mf18, mf19, mf20, mf21, mf22, mf23, mf24, mf25, mf26, mf27, ma54, ma55, ma56, ma57, ma58, ma59, ma60, ma61, ma62, ma63, ma64, ma65, ma66, ma67, ma68, ma69, ma70, ma71, Int.reduceEq, Int.reduceLT, Int.reduceLE, ↓reduceIte, c1, l8, k8, q, itr, btF, w32_k1 (show k < 2147483647 by omega), Int.add_zero, w0]
        exact ih _ _ (by omega) (by omega)
  exact Eq.trans (by simp only [eX5_broughtTo_0, eX5_broughtTo_1, eX5_broughtTo_2, eX5_broughtTo_3]; rfl) (key _ 0 0 (by omega) (by omega))
/-- the duchy behind a choice -/
def chD (d : ST) (a b k : Nat) : ST := if k % 2 = 1 then addH (if k < 2 then d else addH d b a 10) a b 10 else (if k < 2 then d else addH d b a 10)
theorem chD_ok (h : DW d) {a b : Nat} (ha : (a : Int) < d.1 0) (hb : (b : Int) < d.1 0) (hab : a ≠ b) (k : Nat) : DW (chD d a b k) := by
  unfold chD
  have h1 : DW (if k < 2 then d else addH d b a 10) ∧ (if k < 2 then d else addH d b a 10).1 = d.1 := by
    split
    · exact ⟨h, rfl⟩
    · exact ⟨DW_addH h hb ha (fun z => hab z.symm), rfl⟩
  split
  · exact DW_addH h1.1 (by rw [h1.2]; exact ha) (by rw [h1.2]; exact hb) hab
  · exact h1.1
def chF (d : ST) (a b e k : Nat) : Int := ((btS (pdays e (chD d a b k)) a : Nat) : Int)
def chO (d : ST) (a b e k : Nat) : Int := ((btS (pdays e (chD d a b k)) b : Nat) : Int)
/-- the first pair by which neither has more by another one alone -/
def crL (F O : Nat → Int) : Nat → Nat → Int
  | 0, _ => -9
  | m + 1, k => if F k < F (k ^^^ 2) then crL F O m (k + 1) else if O k < O (k ^^^ 1) then crL F O m (k + 1) else ((10 * (k / 2) + k % 2 : Nat) : Int)
theorem ch_tab : ∀ k : Fin 4, w32 ((k.val : Int).tmod 2) = ((k.val % 2 : Nat) : Int) ∧ w32 ((k.val : Int).tdiv 2) = ((k.val / 2 : Nat) : Int) ∧ xor32 (k.val : Int) 2 = ((k.val ^^^ 2 : Nat) : Int) ∧ xor32 (k.val : Int) 1 = ((k.val ^^^ 1 : Nat) : Int) ∧ k.val ^^^ 2 < 4 ∧ k.val ^^^ 1 < 4 ∧ w32 (w32 (10 * ((k.val / 2 : Nat) : Int)) + ((k.val % 2 : Nat) : Int)) = ((10 * (k.val / 2) + k.val % 2 : Nat) : Int) := by decide +kernel
/-- the class's rows and numbers but those two of the choices -/
def GR (g g' : ST) : Prop := g'.1 = g.1 ∧ g'.2 0 = g.2 0 ∧ g'.2 1 = g.2 1 ∧ g'.2 2 = g.2 2 ∧ GL g'
theorem T3_court (h : DW n) (hmi : DL mi) (hg : GL g) {a b e : Nat} (ha : (a : Int) < n.1 0) (hb : (b : Int) < n.1 0) (hab : a ≠ b) (he : e < 2147483647) : ∃ mi' g', DL mi' ∧ GR g g' ∧ ev X m_X3_court 0 [vR 23, vR 1, vI (a : Int), vI (b : Int), vI (e : Int), vS] [] (cpt mem n t mi la g) = some (some (vI (crL (chF n a b e) (chO n a b e) 4 0)), cpt mem n t mi' la g') := by
  have h0 := h.2.1.1
  have h6 := h.2.1.2
  have hL := h.1
  have hba : b ≠ a := fun z => hab z.symm
  have k1 : ∀ (m k : Nat) (mi g1 : ST), DL mi → GR g g1 → k + m = 4 → (∀ j, j < k → (g1.2 3).getD j 0 = chF n a b e j ∧ (g1.2 4).getD j 0 = chO n a b e j) → ∃ mi' g', DL mi' ∧ GR g g' ∧ (∀ j, j < 4 → (g'.2 3).getD j 0 = chF n a b e j ∧ (g'.2 4).getD j 0 = chO n a b e j) ∧ ev X m_X3_court 3 [vR 23, vR 1, vI (a : Int), vI (b : Int), vI (e : Int), vI (k : Int)] [] (cpt mem n t mi la g1) = ev X m_X3_court 97 [vR 23, vR 1, vI (a : Int), vI (b : Int), vI (e : Int), vI 0] [] (cpt mem n t mi' la g') := by
    intro m
    induction m with
    | zero =>
      intro k mi g1 hmi hg1 hk hj
      have c1 : ¬ (k : Int) < 4 := by omega
      refine ⟨mi, g1, hmi, hg1, fun j hj4 => hj j (by omega), ?_⟩
      rw [eX3_court_3]
      simp only [eX3_court_0, eX3_court_1, eX3_court_5, eX3_court_6, eX3_court_9, eX3_court_10, eX3_court_13, eX3_court_14, eX3_court_17, eX3_court_19, eX3_court_20, eX3_court_23, eX3_court_24, eX3_court_27, eX3_court_28, eX3_court_29, eX3_court_31, eX3_court_34, eX3_court_34r, eX3_court_35, eX3_court_37, eX3_court_38, eX3_court_39, eX3_court_40, eX3_court_43, eX3_court_44, eX3_court_47, eX3_court_48, eX3_court_49, eX3_court_51, eX3_court_54, eX3_court_54r, eX3_court_55, eX3_court_56, eX3_court_59, eX3_court_61, eX3_court_64, eX3_court_65, eX3_court_68, eX3_court_70, eX3_court_71, eX3_court_72, eX3_court_75, eX3_court_76, eX3_court_77, eX3_court_80, eX3_court_82, eX3_court_83, eX3_court_84, eX3_court_87, eX3_court_88, eX3_court_91, eX3_court_94, eX3_court_95, eX3_court_99, eX3_court_100, eX3_court_103, eX3_court_104, eX3_court_107, eX3_court_109, eX3_court_110, eX3_court_111, eX3_court_114, eX3_court_116, eX3_court_117, eX3_court_118, eX3_court_119, eX3_court_122, eX3_court_123, eX3_court_126, eX3_court_128, eX3_court_129, eX3_court_130, eX3_court_133, eX3_court_135, eX3_court_136, eX3_court_137, eX3_court_138, eX3_court_141, eX3_court_143, eX3_court_145, eX3_court_146, eX3_court_147, eX3_court_148, eX3_court_150, eX3_court_151, eX3_court_152, eX3_court_153, eX3_court_154, eX3_court_157, eX3_court_160, eX3_court_162, evb_some, evm_some, evc_some, evc_none, gd, if_true, if_false, eq_self, and_self, and_true, true_and, ne_eq, not_false_eq_true, or_true, true_or, cf0_0, cf0_1, cf0_2, cf0_3, cf0_4, cf0_5, cf0_6, cf23_0, cf23_1, cf23_2, cf23_3, cf48_0, cf48_1, cf50_0, cf50_1, cg0, cg23, cg48, cg50, cg1, cg12, cg24, cg35, Int.reduceEq, Int.reduceLT, Int.reduceLE, ↓reduceIte, c1]
    | succ m ih =>
      intro k mi g1 hmi hg1 hk hj
      have k4 : k < 4 := by omega
      have c1 : (k : Int) < 4 := by omega
      obtain ⟨t1, t2, t3, t4, t5, t6, t7⟩ := ch_tab ⟨k, k4⟩
      dsimp only at t1 t2 t3 t4 t5 t6 t7
      have hC := chD_ok h ha hb hab k
      have hA := pdays_ok hC e
      have s1 := T3_broughtTo (X := X) (mem := mem) (n := n) (t := t) (la := la) (g := g1) (d := pdays e (chD n a b k)) (p := a) hA.1
      have s2 := T3_broughtTo (X := X) (mem := mem) (n := n) (t := t) (la := la) (g := setL g1 3 ((g1.2 3).set k (chF n a b e k))) (d := pdays e (chD n a b k)) (p := b) hA.1
      rw [show (((btS (pdays e (chD n a b k)) a : Nat) : Int)) = chF n a b e k from rfl] at s1
      rw [show (((btS (pdays e (chD n a b k)) b : Nat) : Int)) = chO n a b e k from rfl] at s2
      obtain ⟨r1, r2, r3, r4, ⟨e0, e1, e2, e3, e4⟩⟩ := hg1
      have f4 : ((setL g1 3 ((g1.2 3).set k (chF n a b e k))).2 4).length = 4 := e4
      obtain ⟨mi', g', i1, i2, i3, i4⟩ := ih (k + 1) (pdays e (chD n a b k)) (setL (setL g1 3 ((g1.2 3).set k (chF n a b e k))) 4 ((g1.2 4).set k (chO n a b e k))) hA.1.1 ⟨r1, r2, r3, r4, ⟨e0, e1, e2, (List.length_set ..).trans e3, (List.length_set ..).trans e4⟩⟩ (by omega) (fun j hj2 => by
        show ((g1.2 3).set k (chF n a b e k)).getD j 0 = _ ∧ ((g1.2 4).set k (chO n a b e k)).getD j 0 = _
        rw [getD_set (by omega), getD_set (by omega)]
        by_cases q : j = k
        · rw [if_pos q, if_pos q, q]; exact ⟨rfl, rfl⟩
        · rw [if_neg q, if_neg q]; exact hj j (by omega))
      refine ⟨mi', g', i1, i2, i3, ?_⟩
      rw [eX3_court_3]
      refine Eq.trans ?_ i4
      have d1 := DW_addH (x := 10) h hb ha hba
      unfold chD at hC s1 s2 ⊢
      by_cases q1 : k < 2
      · have q2 : (k : Int) < 2 := by omega
        by_cases q3 : k % 2 = 1
        · have q4 : ((k % 2 : Nat) : Int) = 1 := by omega
          simp only [if_pos q1, if_pos q3] at hC s1 s2 ⊢
          simp only [eX3_court_0, eX3_court_1, eX3_court_5, eX3_court_6, eX3_court_9, eX3_court_10, eX3_court_13, eX3_court_14, eX3_court_17, eX3_court_19, eX3_court_20, eX3_court_23, eX3_court_24, eX3_court_27, eX3_court_28, eX3_court_29, eX3_court_31, eX3_court_34, eX3_court_34r, eX3_court_35, eX3_court_37, eX3_court_38, eX3_court_39, eX3_court_40, eX3_court_43, eX3_court_44, eX3_court_47, eX3_court_48, eX3_court_49, eX3_court_51, eX3_court_54, eX3_court_54r, eX3_court_55, eX3_court_56, eX3_court_59, eX3_court_61, eX3_court_64, eX3_court_65, eX3_court_68, eX3_court_70, eX3_court_71, eX3_court_72, eX3_court_75, eX3_court_76, eX3_court_77, eX3_court_80, eX3_court_82, eX3_court_83, eX3_court_84, eX3_court_87, eX3_court_88, eX3_court_91, eX3_court_94, eX3_court_95, eX3_court_99, eX3_court_100, eX3_court_103, eX3_court_104, eX3_court_107, eX3_court_109, eX3_court_110, eX3_court_111, eX3_court_114, eX3_court_116, eX3_court_117, eX3_court_118, eX3_court_119, eX3_court_122, eX3_court_123, eX3_court_126, eX3_court_128, eX3_court_129, eX3_court_130, eX3_court_133, eX3_court_135, eX3_court_136, eX3_court_137, eX3_court_138, eX3_court_141, eX3_court_143, eX3_court_145, eX3_court_146, eX3_court_147, eX3_court_148, eX3_court_150, eX3_court_151, eX3_court_152, eX3_court_153, eX3_court_154, eX3_court_157, eX3_court_160, eX3_court_162, evb_some, evm_some, evc_some, evc_none, gd, if_true, if_false, eq_self, and_self, and_true, true_and, ne_eq, not_false_eq_true, or_true, true_or, cf0_0, cf0_1, cf0_2, cf0_3, cf0_4, cf0_5, cf0_6, cf23_0, cf23_1, cf23_2, cf23_3, cf48_0, cf48_1, cf50_0, cf50_1, cg0, cg23, cg48, cg50, cg1, cg12, cg24, cg35, Int.reduceEq, Int.reduceLT, Int.reduceLE, ↓reduceIte, ca46, ca47, ca49, ca51, ca52, cl46, cl47, cl49, cl51, cl52, cw0, cw48, cw50, cx46, cx47, cx49, cx51, cx52, setS_1, setS_2, setL_1, setL_2, Nat.reduceEqDiff, ↓reduceIte, List.length_set, c1, b24_1 hmi hL, q2, t1, q4, if_neg z2, m_addHate hL h6 ha hb hab, m_passDays hC he, s1, s2, e3, e4, f4, k4, w32_k1 (show k < 2147483647 by omega)]
        · have q4 : ¬ ((k % 2 : Nat) : Int) = 1 := by omega
          simp only [if_pos q1, if_neg q3] at hC s1 s2 ⊢
          simp only [eX3_court_0, eX3_court_1, eX3_court_5, eX3_court_6, eX3_court_9, eX3_court_10, eX3_court_13, eX3_court_14, eX3_court_17, eX3_court_19, eX3_court_20, eX3_court_23, eX3_court_24, eX3_court_27, eX3_court_28, eX3_court_29, eX3_court_31, eX3_court_34, eX3_court_34r, eX3_court_35, eX3_court_37, eX3_court_38, eX3_court_39, eX3_court_40, eX3_court_43, eX3_court_44, eX3_court_47, eX3_court_48, eX3_court_49, eX3_court_51, eX3_court_54, eX3_court_54r, eX3_court_55, eX3_court_56, eX3_court_59, eX3_court_61, eX3_court_64, eX3_court_65, eX3_court_68, eX3_court_70, eX3_court_71, eX3_court_72, eX3_court_75, eX3_court_76, eX3_court_77, eX3_court_80, eX3_court_82, eX3_court_83, eX3_court_84, eX3_court_87, eX3_court_88, eX3_court_91, eX3_court_94, eX3_court_95, eX3_court_99, eX3_court_100, eX3_court_103, eX3_court_104, eX3_court_107, eX3_court_109, eX3_court_110, eX3_court_111, eX3_court_114, eX3_court_116, eX3_court_117, eX3_court_118, eX3_court_119, eX3_court_122, eX3_court_123, eX3_court_126, eX3_court_128, eX3_court_129, eX3_court_130, eX3_court_133, eX3_court_135, eX3_court_136, eX3_court_137, eX3_court_138, eX3_court_141, eX3_court_143, eX3_court_145, eX3_court_146, eX3_court_147, eX3_court_148, eX3_court_150, eX3_court_151, eX3_court_152, eX3_court_153, eX3_court_154, eX3_court_157, eX3_court_160, eX3_court_162, evb_some, evm_some, evc_some, evc_none, gd, if_true, if_false, eq_self, and_self, and_true, true_and, ne_eq, not_false_eq_true, or_true, true_or, cf0_0, cf0_1, cf0_2, cf0_3, cf0_4, cf0_5, cf0_6, cf23_0, cf23_1, cf23_2, cf23_3, cf48_0, cf48_1, cf50_0, cf50_1, cg0, cg23, cg48, cg50, cg1, cg12, cg24, cg35, Int.reduceEq, Int.reduceLT, Int.reduceLE, ↓reduceIte, ca46, ca47, ca49, ca51, ca52, cl46, cl47, cl49, cl51, cl52, cw0, cw48, cw50, cx46, cx47, cx49, cx51, cx52, setS_1, setS_2, setL_1, setL_2, Nat.reduceEqDiff, ↓reduceIte, List.length_set, c1, b24_1 hmi hL, q2, t1, q4, if_neg z2, m_passDays hC he, s1, s2, e3, e4, f4, k4, w32_k1 (show k < 2147483647 by omega)]
      · have q2 : ¬ (k : Int) < 2 := by omega
        by_cases q3 : k % 2 = 1
        · have q4 : ((k % 2 : Nat) : Int) = 1 := by omega
          simp only [if_neg q1, if_pos q3] at hC s1 s2 ⊢
          simp only [eX3_court_0, eX3_court_1, eX3_court_5, eX3_court_6, eX3_court_9, eX3_court_10, eX3_court_13, eX3_court_14, eX3_court_17, eX3_court_19, eX3_court_20, eX3_court_23, eX3_court_24, eX3_court_27, eX3_court_28, eX3_court_29, eX3_court_31, eX3_court_34, eX3_court_34r, eX3_court_35, eX3_court_37, eX3_court_38, eX3_court_39, eX3_court_40, eX3_court_43, eX3_court_44, eX3_court_47, eX3_court_48, eX3_court_49, eX3_court_51, eX3_court_54, eX3_court_54r, eX3_court_55, eX3_court_56, eX3_court_59, eX3_court_61, eX3_court_64, eX3_court_65, eX3_court_68, eX3_court_70, eX3_court_71, eX3_court_72, eX3_court_75, eX3_court_76, eX3_court_77, eX3_court_80, eX3_court_82, eX3_court_83, eX3_court_84, eX3_court_87, eX3_court_88, eX3_court_91, eX3_court_94, eX3_court_95, eX3_court_99, eX3_court_100, eX3_court_103, eX3_court_104, eX3_court_107, eX3_court_109, eX3_court_110, eX3_court_111, eX3_court_114, eX3_court_116, eX3_court_117, eX3_court_118, eX3_court_119, eX3_court_122, eX3_court_123, eX3_court_126, eX3_court_128, eX3_court_129, eX3_court_130, eX3_court_133, eX3_court_135, eX3_court_136, eX3_court_137, eX3_court_138, eX3_court_141, eX3_court_143, eX3_court_145, eX3_court_146, eX3_court_147, eX3_court_148, eX3_court_150, eX3_court_151, eX3_court_152, eX3_court_153, eX3_court_154, eX3_court_157, eX3_court_160, eX3_court_162, evb_some, evm_some, evc_some, evc_none, gd, if_true, if_false, eq_self, and_self, and_true, true_and, ne_eq, not_false_eq_true, or_true, true_or, cf0_0, cf0_1, cf0_2, cf0_3, cf0_4, cf0_5, cf0_6, cf23_0, cf23_1, cf23_2, cf23_3, cf48_0, cf48_1, cf50_0, cf50_1, cg0, cg23, cg48, cg50, cg1, cg12, cg24, cg35, Int.reduceEq, Int.reduceLT, Int.reduceLE, ↓reduceIte, ca46, ca47, ca49, ca51, ca52, cl46, cl47, cl49, cl51, cl52, cw0, cw48, cw50, cx46, cx47, cx49, cx51, cx52, setS_1, setS_2, setL_1, setL_2, Nat.reduceEqDiff, ↓reduceIte, List.length_set, c1, b24_1 hmi hL, q2, t1, q4, if_neg z2, m_addHate hL h6 hb ha hba, m_addHate (d := addH n b a 10) d1.1 h6 ha hb hab, m_passDays hC he, s1, s2, e3, e4, f4, k4, w32_k1 (show k < 2147483647 by omega)]
        · have q4 : ¬ ((k % 2 : Nat) : Int) = 1 := by omega
          simp only [if_neg q1, if_neg q3] at hC s1 s2 ⊢
          simp only [eX3_court_0, eX3_court_1, eX3_court_5, eX3_court_6, eX3_court_9, eX3_court_10, eX3_court_13, eX3_court_14, eX3_court_17, eX3_court_19, eX3_court_20, eX3_court_23, eX3_court_24, eX3_court_27, eX3_court_28, eX3_court_29, eX3_court_31, eX3_court_34, eX3_court_34r, eX3_court_35, eX3_court_37, eX3_court_38, eX3_court_39, eX3_court_40, eX3_court_43, eX3_court_44, eX3_court_47, eX3_court_48, eX3_court_49, eX3_court_51, eX3_court_54, eX3_court_54r, eX3_court_55, eX3_court_56, eX3_court_59, eX3_court_61, eX3_court_64, eX3_court_65, eX3_court_68, eX3_court_70, eX3_court_71, eX3_court_72, eX3_court_75, eX3_court_76, eX3_court_77, eX3_court_80, eX3_court_82, eX3_court_83, eX3_court_84, eX3_court_87, eX3_court_88, eX3_court_91, eX3_court_94, eX3_court_95, eX3_court_99, eX3_court_100, eX3_court_103, eX3_court_104, eX3_court_107, eX3_court_109, eX3_court_110, eX3_court_111, eX3_court_114, eX3_court_116, eX3_court_117, eX3_court_118, eX3_court_119, eX3_court_122, eX3_court_123, eX3_court_126, eX3_court_128, eX3_court_129, eX3_court_130, eX3_court_133, eX3_court_135, eX3_court_136, eX3_court_137, eX3_court_138, eX3_court_141, eX3_court_143, eX3_court_145, eX3_court_146, eX3_court_147, eX3_court_148, eX3_court_150, eX3_court_151, eX3_court_152, eX3_court_153, eX3_court_154, eX3_court_157, eX3_court_160, eX3_court_162, evb_some, evm_some, evc_some, evc_none, gd, if_true, if_false, eq_self, and_self, and_true, true_and, ne_eq, not_false_eq_true, or_true, true_or, cf0_0, cf0_1, cf0_2, cf0_3, cf0_4, cf0_5, cf0_6, cf23_0, cf23_1, cf23_2, cf23_3, cf48_0, cf48_1, cf50_0, cf50_1, cg0, cg23, cg48, cg50, cg1, cg12, cg24, cg35, Int.reduceEq, Int.reduceLT, Int.reduceLE, ↓reduceIte, ca46, ca47, ca49, ca51, ca52, cl46, cl47, cl49, cl51, cl52, cw0, cw48, cw50, cx46, cx47, cx49, cx51, cx52, setS_1, setS_2, setL_1, setL_2, Nat.reduceEqDiff, ↓reduceIte, List.length_set, c1, b24_1 hmi hL, q2, t1, q4, if_neg z2, m_addHate hL h6 hb ha hba, m_passDays hC he, s1, s2, e3, e4, f4, k4, w32_k1 (show k < 2147483647 by omega)]
  obtain ⟨mi', g', i1, i2, i3, i4⟩ := k1 4 0 mi g hmi ⟨rfl, rfl, rfl, rfl, hg⟩ (by omega) (fun j hj => by omega)
  refine ⟨mi', g', i1, i2, ?_⟩
  have k2 : ∀ (m k : Nat), k + m = 4 → ev X m_X3_court 97 [vR 23, vR 1, vI (a : Int), vI (b : Int), vI (e : Int), vI (k : Int)] [] (cpt mem n t mi' la g') = some (some (vI (crL (chF n a b e) (chO n a b e) m k)), cpt mem n t mi' la g') := by
    intro m
    induction m with
    | zero =>
      intro k hk
      have c1 : ¬ (k : Int) < 4 := by omega
      rw [eX3_court_97]
      simp only [eX3_court_0, eX3_court_1, eX3_court_5, eX3_court_6, eX3_court_9, eX3_court_10, eX3_court_13, eX3_court_14, eX3_court_17, eX3_court_19, eX3_court_20, eX3_court_23, eX3_court_24, eX3_court_27, eX3_court_28, eX3_court_29, eX3_court_31, eX3_court_34, eX3_court_34r, eX3_court_35, eX3_court_37, eX3_court_38, eX3_court_39, eX3_court_40, eX3_court_43, eX3_court_44, eX3_court_47, eX3_court_48, eX3_court_49, eX3_court_51, eX3_court_54, eX3_court_54r, eX3_court_55, eX3_court_56, eX3_court_59, eX3_court_61, eX3_court_64, eX3_court_65, eX3_court_68, eX3_court_70, eX3_court_71, eX3_court_72, eX3_court_75, eX3_court_76, eX3_court_77, eX3_court_80, eX3_court_82, eX3_court_83, eX3_court_84, eX3_court_87, eX3_court_88, eX3_court_91, eX3_court_94, eX3_court_95, eX3_court_99, eX3_court_100, eX3_court_103, eX3_court_104, eX3_court_107, eX3_court_109, eX3_court_110, eX3_court_111, eX3_court_114, eX3_court_116, eX3_court_117, eX3_court_118, eX3_court_119, eX3_court_122, eX3_court_123, eX3_court_126, eX3_court_128, eX3_court_129, eX3_court_130, eX3_court_133, eX3_court_135, eX3_court_136, eX3_court_137, eX3_court_138, eX3_court_141, eX3_court_143, eX3_court_145, eX3_court_146, eX3_court_147, eX3_court_148, eX3_court_150, eX3_court_151, eX3_court_152, eX3_court_153, eX3_court_154, eX3_court_157, eX3_court_160, eX3_court_162, evb_some, evm_some, evc_some, evc_none, gd, if_true, if_false, eq_self, and_self, and_true, true_and, ne_eq, not_false_eq_true, or_true, true_or, cf0_0, cf0_1, cf0_2, cf0_3, cf0_4, cf0_5, cf0_6, cf23_0, cf23_1, cf23_2, cf23_3, cf48_0, cf48_1, cf50_0, cf50_1, cg0, cg23, cg48, cg50, cg1, cg12, cg24, cg35, Int.reduceEq, Int.reduceLT, Int.reduceLE, ↓reduceIte, c1, crL]
    | succ m ih =>
      intro k hk
      have k4 : k < 4 := by omega
      have c1 : (k : Int) < 4 := by omega
      have ih2 := ih (k + 1) (by omega)
      obtain ⟨t1, t2, t3, t4, t5, t6, t7⟩ := ch_tab ⟨k, k4⟩
      dsimp only at t1 t2 t3 t4 t5 t6 t7
      obtain ⟨e0, e1, e2, e3, e4⟩ := i2.2.2.2.2
      have g1 := i3 k k4
      have g2 := i3 (k ^^^ 2) t5
      have g3 := i3 (k ^^^ 1) t6
      rw [eX3_court_97]
      by_cases q1 : chF n a b e k < chF n a b e (k ^^^ 2)
      · simp only [eX3_court_0, eX3_court_1, eX3_court_5, eX3_court_6, eX3_court_9, eX3_court_10, eX3_court_13, eX3_court_14, eX3_court_17, eX3_court_19, eX3_court_20, eX3_court_23, eX3_court_24, eX3_court_27, eX3_court_28, eX3_court_29, eX3_court_31, eX3_court_34, eX3_court_34r, eX3_court_35, eX3_court_37, eX3_court_38, eX3_court_39, eX3_court_40, eX3_court_43, eX3_court_44, eX3_court_47, eX3_court_48, eX3_court_49, eX3_court_51, eX3_court_54, eX3_court_54r, eX3_court_55, eX3_court_56, eX3_court_59, eX3_court_61, eX3_court_64, eX3_court_65, eX3_court_68, eX3_court_70, eX3_court_71, eX3_court_72, eX3_court_75, eX3_court_76, eX3_court_77, eX3_court_80, eX3_court_82, eX3_court_83, eX3_court_84, eX3_court_87, eX3_court_88, eX3_court_91, eX3_court_94, eX3_court_95, eX3_court_99, eX3_court_100, eX3_court_103, eX3_court_104, eX3_court_107, eX3_court_109, eX3_court_110, eX3_court_111, eX3_court_114, eX3_court_116, eX3_court_117, eX3_court_118, eX3_court_119, eX3_court_122, eX3_court_123, eX3_court_126, eX3_court_128, eX3_court_129, eX3_court_130, eX3_court_133, eX3_court_135, eX3_court_136, eX3_court_137, eX3_court_138, eX3_court_141, eX3_court_143, eX3_court_145, eX3_court_146, eX3_court_147, eX3_court_148, eX3_court_150, eX3_court_151, eX3_court_152, eX3_court_153, eX3_court_154, eX3_court_157, eX3_court_160, eX3_court_162, evb_some, evm_some, evc_some, evc_none, gd, if_true, if_false, eq_self, and_self, and_true, true_and, ne_eq, not_false_eq_true, or_true, true_or, cf0_0, cf0_1, cf0_2, cf0_3, cf0_4, cf0_5, cf0_6, cf23_0, cf23_1, cf23_2, cf23_3, cf48_0, cf48_1, cf50_0, cf50_1, cg0, cg23, cg48, cg50, cg1, cg12, cg24, cg35, Int.reduceEq, Int.reduceLT, Int.reduceLE, ↓reduceIte, ca46, ca47, ca49, ca51, ca52, cl46, cl47, cl49, cl51, cl52, c1, t3, e3, k4, t5, g1.1, g2.1, crL, if_pos q1, w32_k1 (show k < 2147483647 by omega)]
        exact ih2
      · by_cases q2 : chO n a b e k < chO n a b e (k ^^^ 1)
        · simp only [eX3_court_0, eX3_court_1, eX3_court_5, eX3_court_6, eX3_court_9, eX3_court_10, eX3_court_13, eX3_court_14, eX3_court_17, eX3_court_19, eX3_court_20, eX3_court_23, eX3_court_24, eX3_court_27, eX3_court_28, eX3_court_29, eX3_court_31, eX3_court_34, eX3_court_34r, eX3_court_35, eX3_court_37, eX3_court_38, eX3_court_39, eX3_court_40, eX3_court_43, eX3_court_44, eX3_court_47, eX3_court_48, eX3_court_49, eX3_court_51, eX3_court_54, eX3_court_54r, eX3_court_55, eX3_court_56, eX3_court_59, eX3_court_61, eX3_court_64, eX3_court_65, eX3_court_68, eX3_court_70, eX3_court_71, eX3_court_72, eX3_court_75, eX3_court_76, eX3_court_77, eX3_court_80, eX3_court_82, eX3_court_83, eX3_court_84, eX3_court_87, eX3_court_88, eX3_court_91, eX3_court_94, eX3_court_95, eX3_court_99, eX3_court_100, eX3_court_103, eX3_court_104, eX3_court_107, eX3_court_109, eX3_court_110, eX3_court_111, eX3_court_114, eX3_court_116, eX3_court_117, eX3_court_118, eX3_court_119, eX3_court_122, eX3_court_123, eX3_court_126, eX3_court_128, eX3_court_129, eX3_court_130, eX3_court_133, eX3_court_135, eX3_court_136, eX3_court_137, eX3_court_138, eX3_court_141, eX3_court_143, eX3_court_145, eX3_court_146, eX3_court_147, eX3_court_148, eX3_court_150, eX3_court_151, eX3_court_152, eX3_court_153, eX3_court_154, eX3_court_157, eX3_court_160, eX3_court_162, evb_some, evm_some, evc_some, evc_none, gd, if_true, if_false, eq_self, and_self, and_true, true_and, ne_eq, not_false_eq_true, or_true, true_or, cf0_0, cf0_1, cf0_2, cf0_3, cf0_4, cf0_5, cf0_6, cf23_0, cf23_1, cf23_2, cf23_3, cf48_0, cf48_1, cf50_0, cf50_1, cg0, cg23, cg48, cg50, cg1, cg12, cg24, cg35, Int.reduceEq, Int.reduceLT, Int.reduceLE, ↓reduceIte, ca46, ca47, ca49, ca51, ca52, cl46, cl47, cl49, cl51, cl52, c1, t3, t4, e3, e4, k4, t5, t6, g1.1, g2.1, g1.2, g3.2, crL, if_neg q1, if_pos q2, w32_k1 (show k < 2147483647 by omega)]
          exact ih2
        · simp only [eX3_court_0, eX3_court_1, eX3_court_5, eX3_court_6, eX3_court_9, eX3_court_10, eX3_court_13, eX3_court_14, eX3_court_17, eX3_court_19, eX3_court_20, eX3_court_23, eX3_court_24, eX3_court_27, eX3_court_28, eX3_court_29, eX3_court_31, eX3_court_34, eX3_court_34r, eX3_court_35, eX3_court_37, eX3_court_38, eX3_court_39, eX3_court_40, eX3_court_43, eX3_court_44, eX3_court_47, eX3_court_48, eX3_court_49, eX3_court_51, eX3_court_54, eX3_court_54r, eX3_court_55, eX3_court_56, eX3_court_59, eX3_court_61, eX3_court_64, eX3_court_65, eX3_court_68, eX3_court_70, eX3_court_71, eX3_court_72, eX3_court_75, eX3_court_76, eX3_court_77, eX3_court_80, eX3_court_82, eX3_court_83, eX3_court_84, eX3_court_87, eX3_court_88, eX3_court_91, eX3_court_94, eX3_court_95, eX3_court_99, eX3_court_100, eX3_court_103, eX3_court_104, eX3_court_107, eX3_court_109, eX3_court_110, eX3_court_111, eX3_court_114, eX3_court_116, eX3_court_117, eX3_court_118, eX3_court_119, eX3_court_122, eX3_court_123, eX3_court_126, eX3_court_128, eX3_court_129, eX3_court_130, eX3_court_133, eX3_court_135, eX3_court_136, eX3_court_137, eX3_court_138, eX3_court_141, eX3_court_143, eX3_court_145, eX3_court_146, eX3_court_147, eX3_court_148, eX3_court_150, eX3_court_151, eX3_court_152, eX3_court_153, eX3_court_154, eX3_court_157, eX3_court_160, eX3_court_162, evb_some, evm_some, evc_some, evc_none, gd, if_true, if_false, eq_self, and_self, and_true, true_and, ne_eq, not_false_eq_true, or_true, true_or, cf0_0, cf0_1, cf0_2, cf0_3, cf0_4, cf0_5, cf0_6, cf23_0, cf23_1, cf23_2, cf23_3, cf48_0, cf48_1, cf50_0, cf50_1, cg0, cg23, cg48, cg50, cg1, cg12, cg24, cg35, Int.reduceEq, Int.reduceLT, Int.reduceLE, ↓reduceIte, ca46, ca47, ca49, ca51, ca52, cl46, cl47, cl49, cl51, cl52, c1, t3, t4, e3, e4, k4, t5, t6, g1.1, g2.1, g1.2, g3.2, crL, if_neg q1, if_neg q2, if_neg z2, t1, t2, t7]
  refine Eq.trans ?_ (k2 4 0 (by omega))
  refine Eq.trans ?_ i4
  simp only [eX3_court_0, eX3_court_1]
  rfl
/-- the reference's rest, but for what is kept and how many are brought -/
def GS (g g' : ST) (b : Nat) : Prop := (∀ k, k ≠ 4 → k ≠ 5 → g'.1 k = g.1 k) ∧ (∀ k, k ≠ 5 → k ≠ 6 → g'.2 k = g.2 k) ∧ (g'.2 5).length = 309 ∧ (g'.2 6).length = 8 ∧ ∀ j, j < b → (g'.2 5).getD j 0 = (g.2 5).getD j 0
theorem addH_0 (h : DW d) {i j : Nat} (hi : i < 6) (hj : j < 6) : addH d i j 0 = d := by
  have h1 := h.2.2.2.2.2.1 i j hi hj
  unfold addH
  rw [Int.add_zero, w32_id (by omega) (by omega)]
  have e : clamp (hat d i j) = hat d i j := by
    unfold clamp
    rw [if_neg (by omega), if_neg (by omega)]
  rw [e]
  refine ST_ext (fun _ => rfl) (fun k => ?_)
  unfold setH hat
  simp only [setL_2]
  by_cases q : k = 5
  · rw [if_pos q, set_self, q]
  · rw [if_neg q]
theorem s6_6 {g : ST} {l : List Int} : (setL g 6 l).2 6 = l := by rw [setL_2, if_pos rfl]
theorem s6_5 {g : ST} {l : List Int} : (setL g 6 l).2 5 = g.2 5 := by rw [setL_2, if_neg (by decide)]
theorem s66 {g : ST} {a b : List Int} : setL (setL g 6 a) 6 b = setL g 6 b := ST_ext (fun _ => rfl) (fun j => by simp only [setL_2]; split <;> rfl)
theorem gG_26 {l : List Int} {m : Int} {c : Nat} : (gG g l m c).2 6 = g.2 6 := by
  unfold gG
  rw [setS_2, setS_2, setL_2, if_neg (by decide)]
theorem gG_s6 {l l6 : List Int} {m : Int} {c : Nat} : gG (setL g 6 l6) l m c = setL (gG g l m c) 6 l6 := by
  unfold gG
  refine ST_ext (fun j => rfl) (fun j => ?_)
  simp only [setS_2, setL_2]
  by_cases q : j = 5
  · subst q
    rw [if_pos rfl, if_neg (by decide), if_pos rfl]
  · rw [if_neg q]
    by_cases q2 : j = 6
    · rw [if_pos q2, if_pos q2]
    · rw [if_neg q2, if_neg q2, if_neg q]
theorem T5_forgetsR {d0 : ST} (hL : DL d) (hL0 : DL d0) (hl : (g.2 5).length = 309) (l6 : List Int) : ev X m_X5_forgets 0 [vR 53] [] (mpt mem (setL (gG g (kA (g.2 5) 206 d0) 1 309) 6 l6) d) = some (none, mpt mem (setL (gTh g d0) 6 l6) d0) := by
  have h := T5_back2 (X := X) (mem := mem) (g := setL (gG g (kA (g.2 5) 206 d0) 1 309) 6 l6) (d := d) hL hL0 (by rw [s6_5, gG_k, kA_len]; exact hl) (by rw [s6_5, gG_k]; exact kA_KB _ hl 206 (by decide))
  rw [s6_5, gG_k, gG_s6, gG_gG] at h
  simp only [eX5_forgets_0, eX5_forgets_1, eX5_forgets_2, eX5_forgets_3, eX5_forgets_6, evb_some, evm_some, evc_some, evc_none, gd, if_true, if_false, eq_self, and_self, and_true, true_and, ne_eq, not_false_eq_true, or_true, true_or, mg, mf0, mf1, mf2, mf3, mf4, mf5, mf6, mf7, mf8, mf9, mf10, mf11, mf12, mf13, mf14, mf15, mf16, mf17, mf18, mf19, mf20, mf21, mf22, mf23, mf24, mf25, mf26, mf27, h, gTh]
theorem T5_findBrought (h : DW d) (hl : (g.2 5).length = 309) (hl6 : (g.2 6).length = 8) {a b e : Nat} (ha : (a : Int) < d.1 0) (hb : (b : Int) < d.1 0) (hab : a ≠ b) (he : e < 2147483647) : ∃ g', GS g g' 206 ∧ (∀ j, j < 4 → (g'.2 6).getD (2 * j) 0 = chF d a b e j ∧ (g'.2 6).getD (2 * j + 1) 0 = chO d a b e j) ∧ ev X m_X5_findBrought 0 [vR 53, vI (a : Int), vI (b : Int), vI (e : Int), vS] [] (mpt mem g d) = some (none, mpt mem g' d) := by
  have h0 := h.2.1.1
  have h6 := h.2.1.2
  have hL := h.1
  have a6 : a < 6 := by omega
  have b6 : b < 6 := by omega
  have hba : b ≠ a := fun z => hab z.symm
  have k1 : ∀ (m k : Nat) (g1 : ST), GS g g1 206 → k + m = 4 → (∀ j, j < k → (g1.2 6).getD (2 * j) 0 = chF d a b e j ∧ (g1.2 6).getD (2 * j + 1) 0 = chO d a b e j) → ∃ g', GS g g' 206 ∧ (∀ j, j < 4 → (g'.2 6).getD (2 * j) 0 = chF d a b e j ∧ (g'.2 6).getD (2 * j + 1) 0 = chO d a b e j) ∧ ev X m_X5_findBrought 3 [vR 53, vI (a : Int), vI (b : Int), vI (e : Int), vI (k : Int)] [] (mpt mem g1 d) = some (none, mpt mem g' d) := by
    intro m
    induction m with
    | zero =>
      intro k g1 hg1 hk hj
      have c1 : ¬ (k : Int) < 4 := by omega
      refine ⟨g1, hg1, fun j hj4 => hj j (by omega), ?_⟩
      rw [eX5_findBrought_3]
      simp only [eX5_findBrought_0, eX5_findBrought_1, eX5_findBrought_5, eX5_findBrought_6, eX5_findBrought_9, eX5_findBrought_10, eX5_findBrought_13, eX5_findBrought_14, eX5_findBrought_15, eX5_findBrought_16, eX5_findBrought_18, eX5_findBrought_19, eX5_findBrought_20, eX5_findBrought_23, eX5_findBrought_24, eX5_findBrought_25, eX5_findBrought_26, eX5_findBrought_28, eX5_findBrought_29, eX5_findBrought_30, eX5_findBrought_33, eX5_findBrought_34, eX5_findBrought_35, eX5_findBrought_38, eX5_findBrought_39, eX5_findBrought_42, eX5_findBrought_43, eX5_findBrought_45, eX5_findBrought_46, eX5_findBrought_47, eX5_findBrought_48, eX5_findBrought_51, eX5_findBrought_52, eX5_findBrought_53, eX5_findBrought_56, eX5_findBrought_57, eX5_findBrought_59, eX5_findBrought_60, eX5_findBrought_61, eX5_findBrought_62, eX5_findBrought_63, eX5_findBrought_64, eX5_findBrought_67, eX5_findBrought_68, eX5_findBrought_69, eX5_findBrought_72, eX5_findBrought_75, eX5_findBrought_78, evb_some, evm_some, evc_some, evc_none, gd, if_true, if_false, eq_self, and_self, and_true, true_and, ne_eq, not_false_eq_true, or_true, true_or, mg, mf0, mf1, mf2, mf3, mf4, mf5, mf6, mf7, mf8, mf9, mf10, mf11, mf12, mf13, mf14, mf15, mf16, mf17, mf18, mf19, mf20, mf21, mf22, mf23, mf24, mf25, mf26, mf27, ma54, ma55, ma56, ma57, ma58, ma59, ma60, ma61, ma62, ma63, ma64, ma65, ma66, ma67, ma68, ma69, ma70, ma71, Int.reduceEq, Int.reduceLT, Int.reduceLE, ↓reduceIte, c1]
    | succ m ih =>
      intro k g1 hg1 hk hj
      have k4 : k < 4 := by omega
      have c1 : (k : Int) < 4 := by omega
      obtain ⟨t1, t2, t3, t4, t5, t6, t7⟩ := ch_tab ⟨k, k4⟩
      dsimp only at t1 t2 t3 t4 t5 t6 t7
      have hC := chD_ok h ha hb hab k
      have hA := pdays_ok hC e
      obtain ⟨r1, r2, r3, r4, r5⟩ := hg1
      have hch : addH (addH d b a (w32 (10 * ((k / 2 : Nat) : Int)))) a b (w32 (10 * ((k % 2 : Nat) : Int))) = chD d a b k := by
        have d1 := DW_addH (x := 10) h hb ha hba
        have hx : w32 (10 * ((k / 2 : Nat) : Int)) = (if k < 2 then 0 else 10) := by
          rcases (show k = 0 ∨ k = 1 ∨ k = 2 ∨ k = 3 by omega) with rfl | rfl | rfl | rfl <;> decide
        have hy : w32 (10 * ((k % 2 : Nat) : Int)) = (if k % 2 = 1 then 10 else 0) := by
          rcases (show k = 0 ∨ k = 1 ∨ k = 2 ∨ k = 3 by omega) with rfl | rfl | rfl | rfl <;> decide
        rw [hx, hy]
        unfold chD
        by_cases q1 : k < 2
        · rw [if_pos q1, if_pos q1, addH_0 h b6 a6]
          by_cases q2 : k % 2 = 1
          · rw [if_pos q2, if_pos q2]
          · rw [if_neg q2, if_neg q2, addH_0 h a6 b6]
        · rw [if_neg q1, if_neg q1]
          by_cases q2 : k % 2 = 1
          · rw [if_pos q2, if_pos q2]
          · rw [if_neg q2, if_neg q2, addH_0 d1 a6 b6]
      have hDL1 : DL (addH d b a (w32 (10 * ((k / 2 : Nat) : Int)))) := (DW_addH h hb ha hba).1
      have hs1 := fun g => T5_slighted (X := X) (mem := mem) (g := g) (t := ((k / 2 : Nat) : Int)) hL b6 a6
      have hs2 := fun g => T5_slighted (X := X) (mem := mem) (g := g) (t := ((k % 2 : Nat) : Int)) hDL1 a6 b6
      rw [hch] at hs2
      have w2 : w32 (2 * (k : Int)) = ((2 * k : Nat) : Int) := by rw [w32_id (by omega) (by omega)]; omega
      have i8 : 2 * k < 8 := by omega
      have j8 : 2 * k + 1 < 8 := by omega
      have x1 := fun g => T5_broughtTo (X := X) (mem := mem) (g := g) (d := pdays e (chD d a b k)) (p := a) hA.1
      have x2 := fun g => T5_broughtTo (X := X) (mem := mem) (g := g) (d := pdays e (chD d a b k)) (p := b) hA.1
      rw [show (((btS (pdays e (chD d a b k)) a : Nat) : Int)) = chF d a b e k from rfl] at x1
      rw [show (((btS (pdays e (chD d a b k)) b : Nat) : Int)) = chO d a b e k from rfl] at x2
      have hq := GQ_gTh (d := d) r3
      obtain ⟨g', i1, i2, i3⟩ := ih (k + 1) (setL (gTh g1 d) 6 (((g1.2 6).set (2 * k) (chF d a b e k)).set (2 * k + 1) (chO d a b e k))) (by
        refine ⟨fun j h4 h5 => ?_, fun j h5 h6 => ?_, ?_, ?_, fun j hj2 => ?_⟩
        · rw [setL_1, hq.1 j h4 h5]
          exact r1 j h4 h5
        · rw [setL_2, if_neg h6, hq.2.1 j h5]
          exact r2 j h5 h6
        · rw [s6_5]
          exact hq.2.2.1
        · rw [s6_6, List.length_set, List.length_set]
          exact r4
        · rw [s6_5, hq.2.2.2 j hj2]
          exact r5 j hj2) (by omega) (fun j hj2 => by
        rw [s6_6, getD_set (by rw [List.length_set]; omega), getD_set (by omega), getD_set (by rw [List.length_set]; omega), getD_set (by omega)]
        by_cases q : j = k
        · rw [if_neg (by omega), if_pos (by omega), if_pos (by omega), q]
          exact ⟨rfl, rfl⟩
        · rw [if_neg (by omega), if_neg (by omega), if_neg (by omega), if_neg (by omega)]
          exact hj j (by omega))
      refine ⟨g', i1, i2, ?_⟩
      rw [eX5_findBrought_3]
      simp only [eX5_findBrought_0, eX5_findBrought_1, eX5_findBrought_5, eX5_findBrought_6, eX5_findBrought_9, eX5_findBrought_10, eX5_findBrought_13, eX5_findBrought_14, eX5_findBrought_15, eX5_findBrought_16, eX5_findBrought_18, eX5_findBrought_19, eX5_findBrought_20, eX5_findBrought_23, eX5_findBrought_24, eX5_findBrought_25, eX5_findBrought_26, eX5_findBrought_28, eX5_findBrought_29, eX5_findBrought_30, eX5_findBrought_33, eX5_findBrought_34, eX5_findBrought_35, eX5_findBrought_38, eX5_findBrought_39, eX5_findBrought_42, eX5_findBrought_43, eX5_findBrought_45, eX5_findBrought_46, eX5_findBrought_47, eX5_findBrought_48, eX5_findBrought_51, eX5_findBrought_52, eX5_findBrought_53, eX5_findBrought_56, eX5_findBrought_57, eX5_findBrought_59, eX5_findBrought_60, eX5_findBrought_61, eX5_findBrought_62, eX5_findBrought_63, eX5_findBrought_64, eX5_findBrought_67, eX5_findBrought_68, eX5_findBrought_69, eX5_findBrought_72, eX5_findBrought_75, eX5_findBrought_78, evb_some, evm_some, evc_some, evc_none, gd, if_true, if_false, eq_self, and_self, and_true, true_and, ne_eq, not_false_eq_true, or_true, true_or, mg, mf0, mf1, mf2, mf3, mf4, mf5, mf6, mf7, mf8, mf9, mf10, mf11, mf12, mf13, mf14, mf15, mf16, mf17, mf18, mf19, mf20, mf21, mf22, mf23, mf24, mf25, mf26, mf27, ma54, ma55, ma56, ma57, ma58, ma59, ma60, ma61, ma62, ma63, ma64, ma65, ma66, ma67, ma68, ma69, ma70, ma71, Int.reduceEq, Int.reduceLT, Int.reduceLE, ↓reduceIte, mw11, mw12, mw13, mw18, mw19, mw20, mw22, mw23, mw24, mw27, mx54, mx55, mx56, mx57, mx58, mx59, mx60, mx61, mx62, mx63, mx64, mx65, mx66, mx67, mx68, mx69, mx70, mx71, c1, if_neg z2, T5_thinks hL r3, t1, t2, hs1, hs2, T5_goes hC he, w2, x1, x2, s6_6, s66, gG_26, List.length_set, r4, i8, j8, w32_k1 (show 2 * k < 2147483647 by omega), T5_forgetsR hA.1.1 hL r3, w32_k1 (show k < 2147483647 by omega)]
      exact i3
  obtain ⟨g', i1, i2, i3⟩ := k1 4 0 g ⟨fun _ _ _ => rfl, fun _ _ _ => rfl, hl, hl6, fun _ _ => rfl⟩ (by omega) (fun j hj => by omega)
  refine ⟨g', i1, i2, Eq.trans ?_ i3⟩
  simp only [eX5_findBrought_0, eX5_findBrought_1]
  rfl
theorem T5_two (h : DW d) (hl : (g.2 5).length = 309) (hl6 : (g.2 6).length = 8) {a b e : Nat} (ha : (a : Int) < d.1 0) (hb : (b : Int) < d.1 0) (hab : a ≠ b) (he : 1 ≤ e ∧ e ≤ 60) : ∃ g', GS g g' 206 ∧ ev X m_X5_two 0 [vR 53, vI (a : Int), vI (b : Int), vI (e : Int), vS, vS] [] (mpt mem g d) = some (some (vI (crL (chF d a b e) (chO d a b e) 4 0)), mpt mem g' d) := by
  obtain ⟨g', i1, i3, i4⟩ := T5_findBrought (X := X) (mem := mem) h hl hl6 ha hb hab (show e < 2147483647 by omega)
  refine ⟨g', i1, ?_⟩
  have k2 : ∀ (m k : Nat), k + m = 4 → ev X m_X5_two 44 [vR 53, vI (a : Int), vI (b : Int), vI (e : Int), vI 0, vI (k : Int)] [] (mpt mem g' d) = some (some (vI (crL (chF d a b e) (chO d a b e) m k)), mpt mem g' d) := by
    intro m
    induction m with
    | zero =>
      intro k hk
      have c1 : ¬ (k : Int) < 4 := by omega
      rw [eX5_two_44]
      simp only [eX5_two_0, eX5_two_1, eX5_two_2, eX5_two_3, eX5_two_6, eX5_two_9, eX5_two_10, eX5_two_13, eX5_two_14, eX5_two_15, eX5_two_17, eX5_two_20, eX5_two_22, eX5_two_24, eX5_two_27, eX5_two_28, eX5_two_30, eX5_two_33, eX5_two_34, eX5_two_35, eX5_two_36, eX5_two_37, eX5_two_38, eX5_two_41, eX5_two_42, eX5_two_46, eX5_two_47, eX5_two_50, eX5_two_51, eX5_two_54, eX5_two_55, eX5_two_57, eX5_two_58, eX5_two_59, eX5_two_60, eX5_two_61, eX5_two_62, eX5_two_65, eX5_two_66, eX5_two_68, eX5_two_69, eX5_two_70, eX5_two_73, eX5_two_74, eX5_two_77, eX5_two_78, eX5_two_80, eX5_two_81, eX5_two_82, eX5_two_83, eX5_two_84, eX5_two_85, eX5_two_86, eX5_two_87, eX5_two_90, eX5_two_91, eX5_two_93, eX5_two_94, eX5_two_95, eX5_two_96, eX5_two_97, eX5_two_100, eX5_two_102, eX5_two_104, eX5_two_105, eX5_two_106, eX5_two_107, eX5_two_109, eX5_two_110, eX5_two_111, eX5_two_112, eX5_two_113, eX5_two_116, eX5_two_119, eX5_two_121, evb_some, evm_some, evc_some, evc_none, gd, if_true, if_false, eq_self, and_self, and_true, true_and, ne_eq, not_false_eq_true, or_true, true_or, mg, mf0, mf1, mf2, mf3, mf4, mf5, mf6, mf7, mf8, mf9, mf10, mf11, mf12, mf13, mf14, mf15, mf16, mf17, mf18, mf19, mf20, mf21, mf22, mf23, mf24, mf25, mf26, mf27, ma54, ma55, ma56, ma57, ma58, ma59, ma60, ma61, ma62, ma63, ma64, ma65, ma66, ma67, ma68, ma69, ma70, ma71, Int.reduceEq, Int.reduceLT, Int.reduceLE, ↓reduceIte, c1, crL]
    | succ m ih =>
      intro k hk
      have k4 : k < 4 := by omega
      have c1 : (k : Int) < 4 := by omega
      have ih2 := ih (k + 1) (by omega)
      obtain ⟨t1, t2, t3, t4, t5, t6, t7⟩ := ch_tab ⟨k, k4⟩
      dsimp only at t1 t2 t3 t4 t5 t6 t7
      have e6 := i1.2.2.2.1
      have g1 := i3 k k4
      have g2 := i3 (k ^^^ 2) t5
      have g3 := i3 (k ^^^ 1) t6
      have w2 : w32 (2 * (k : Int)) = ((2 * k : Nat) : Int) := by rw [w32_id (by omega) (by omega)]; omega
      have w3 : w32 (2 * ((k ^^^ 2 : Nat) : Int)) = ((2 * (k ^^^ 2) : Nat) : Int) := by rw [w32_id (by omega) (by omega)]; omega
      have w4 : w32 (2 * ((k ^^^ 1 : Nat) : Int)) = ((2 * (k ^^^ 1) : Nat) : Int) := by rw [w32_id (by omega) (by omega)]; omega
      rw [eX5_two_44]
      by_cases q1 : chF d a b e k < chF d a b e (k ^^^ 2)
      · simp only [eX5_two_0, eX5_two_1, eX5_two_2, eX5_two_3, eX5_two_6, eX5_two_9, eX5_two_10, eX5_two_13, eX5_two_14, eX5_two_15, eX5_two_17, eX5_two_20, eX5_two_22, eX5_two_24, eX5_two_27, eX5_two_28, eX5_two_30, eX5_two_33, eX5_two_34, eX5_two_35, eX5_two_36, eX5_two_37, eX5_two_38, eX5_two_41, eX5_two_42, eX5_two_46, eX5_two_47, eX5_two_50, eX5_two_51, eX5_two_54, eX5_two_55, eX5_two_57, eX5_two_58, eX5_two_59, eX5_two_60, eX5_two_61, eX5_two_62, eX5_two_65, eX5_two_66, eX5_two_68, eX5_two_69, eX5_two_70, eX5_two_73, eX5_two_74, eX5_two_77, eX5_two_78, eX5_two_80, eX5_two_81, eX5_two_82, eX5_two_83, eX5_two_84, eX5_two_85, eX5_two_86, eX5_two_87, eX5_two_90, eX5_two_91, eX5_two_93, eX5_two_94, eX5_two_95, eX5_two_96, eX5_two_97, eX5_two_100, eX5_two_102, eX5_two_104, eX5_two_105, eX5_two_106, eX5_two_107, eX5_two_109, eX5_two_110, eX5_two_111, eX5_two_112, eX5_two_113, eX5_two_116, eX5_two_119, eX5_two_121, evb_some, evm_some, evc_some, evc_none, gd, if_true, if_false, eq_self, and_self, and_true, true_and, ne_eq, not_false_eq_true, or_true, true_or, mg, mf0, mf1, mf2, mf3, mf4, mf5, mf6, mf7, mf8, mf9, mf10, mf11, mf12, mf13, mf14, mf15, mf16, mf17, mf18, mf19, mf20, mf21, mf22, mf23, mf24, mf25, mf26, mf27, ma54, ma55, ma56, ma57, ma58, ma59, ma60, ma61, ma62, ma63, ma64, ma65, ma66, ma67, ma68, ma69, ma70, ma71, Int.reduceEq, Int.reduceLT, Int.reduceLE, ↓reduceIte, c1, t3, w2, w3, e6, show 2 * k < 8 by omega, show 2 * (k ^^^ 2) < 8 by omega, g1.1, g2.1, crL, if_pos q1, w32_k1 (show k < 2147483647 by omega)]
        exact ih2
      · by_cases q2 : chO d a b e k < chO d a b e (k ^^^ 1)
        · simp only [eX5_two_0, eX5_two_1, eX5_two_2, eX5_two_3, eX5_two_6, eX5_two_9, eX5_two_10, eX5_two_13, eX5_two_14, eX5_two_15, eX5_two_17, eX5_two_20, eX5_two_22, eX5_two_24, eX5_two_27, eX5_two_28, eX5_two_30, eX5_two_33, eX5_two_34, eX5_two_35, eX5_two_36, eX5_two_37, eX5_two_38, eX5_two_41, eX5_two_42, eX5_two_46, eX5_two_47, eX5_two_50, eX5_two_51, eX5_two_54, eX5_two_55, eX5_two_57, eX5_two_58, eX5_two_59, eX5_two_60, eX5_two_61, eX5_two_62, eX5_two_65, eX5_two_66, eX5_two_68, eX5_two_69, eX5_two_70, eX5_two_73, eX5_two_74, eX5_two_77, eX5_two_78, eX5_two_80, eX5_two_81, eX5_two_82, eX5_two_83, eX5_two_84, eX5_two_85, eX5_two_86, eX5_two_87, eX5_two_90, eX5_two_91, eX5_two_93, eX5_two_94, eX5_two_95, eX5_two_96, eX5_two_97, eX5_two_100, eX5_two_102, eX5_two_104, eX5_two_105, eX5_two_106, eX5_two_107, eX5_two_109, eX5_two_110, eX5_two_111, eX5_two_112, eX5_two_113, eX5_two_116, eX5_two_119, eX5_two_121, evb_some, evm_some, evc_some, evc_none, gd, if_true, if_false, eq_self, and_self, and_true, true_and, ne_eq, not_false_eq_true, or_true, true_or, mg, mf0, mf1, mf2, mf3, mf4, mf5, mf6, mf7, mf8, mf9, mf10, mf11, mf12, mf13, mf14, mf15, mf16, mf17, mf18, mf19, mf20, mf21, mf22, mf23, mf24, mf25, mf26, mf27, ma54, ma55, ma56, ma57, ma58, ma59, ma60, ma61, ma62, ma63, ma64, ma65, ma66, ma67, ma68, ma69, ma70, ma71, Int.reduceEq, Int.reduceLT, Int.reduceLE, ↓reduceIte, c1, t3, t4, w2, w3, w4, e6, show 2 * k < 8 by omega, show 2 * (k ^^^ 2) < 8 by omega, show 2 * k + 1 < 8 by omega, show 2 * (k ^^^ 1) + 1 < 8 by omega, w32_k1 (show 2 * k < 2147483647 by omega), w32_k1 (show 2 * (k ^^^ 1) < 2147483647 by omega), g1.1, g2.1, g1.2, g3.2, crL, if_neg q1, if_pos q2, w32_k1 (show k < 2147483647 by omega)]
          exact ih2
        · simp only [eX5_two_0, eX5_two_1, eX5_two_2, eX5_two_3, eX5_two_6, eX5_two_9, eX5_two_10, eX5_two_13, eX5_two_14, eX5_two_15, eX5_two_17, eX5_two_20, eX5_two_22, eX5_two_24, eX5_two_27, eX5_two_28, eX5_two_30, eX5_two_33, eX5_two_34, eX5_two_35, eX5_two_36, eX5_two_37, eX5_two_38, eX5_two_41, eX5_two_42, eX5_two_46, eX5_two_47, eX5_two_50, eX5_two_51, eX5_two_54, eX5_two_55, eX5_two_57, eX5_two_58, eX5_two_59, eX5_two_60, eX5_two_61, eX5_two_62, eX5_two_65, eX5_two_66, eX5_two_68, eX5_two_69, eX5_two_70, eX5_two_73, eX5_two_74, eX5_two_77, eX5_two_78, eX5_two_80, eX5_two_81, eX5_two_82, eX5_two_83, eX5_two_84, eX5_two_85, eX5_two_86, eX5_two_87, eX5_two_90, eX5_two_91, eX5_two_93, eX5_two_94, eX5_two_95, eX5_two_96, eX5_two_97, eX5_two_100, eX5_two_102, eX5_two_104, eX5_two_105, eX5_two_106, eX5_two_107, eX5_two_109, eX5_two_110, eX5_two_111, eX5_two_112, eX5_two_113, eX5_two_116, eX5_two_119, eX5_two_121, evb_some, evm_some, evc_some, evc_none, gd, if_true, if_false, eq_self, and_self, and_true, true_and, ne_eq, not_false_eq_true, or_true, true_or, mg, mf0, mf1, mf2, mf3, mf4, mf5, mf6, mf7, mf8, mf9, mf10, mf11, mf12, mf13, mf14, mf15, mf16, mf17, mf18, mf19, mf20, mf21, mf22, mf23, mf24, mf25, mf26, mf27, ma54, ma55, ma56, ma57, ma58, ma59, ma60, ma61, ma62, ma63, ma64, ma65, ma66, ma67, ma68, ma69, ma70, ma71, Int.reduceEq, Int.reduceLT, Int.reduceLE, ↓reduceIte, c1, t3, t4, w2, w3, w4, e6, show 2 * k < 8 by omega, show 2 * (k ^^^ 2) < 8 by omega, show 2 * k + 1 < 8 by omega, show 2 * (k ^^^ 1) + 1 < 8 by omega, w32_k1 (show 2 * k < 2147483647 by omega), w32_k1 (show 2 * (k ^^^ 1) < 2147483647 by omega), g1.1, g2.1, g1.2, g3.2, crL, if_neg q1, if_neg q2, if_neg z2, t1, t2, t7]
  refine Eq.trans ?_ (k2 4 0 (by omega))
  have h0 := h.2.1.1
  simp only [eX5_two_0, eX5_two_1, eX5_two_2, eX5_two_3, eX5_two_6, eX5_two_9, eX5_two_10, eX5_two_13, eX5_two_14, eX5_two_15, eX5_two_17, eX5_two_20, eX5_two_22, eX5_two_24, eX5_two_27, eX5_two_28, eX5_two_30, eX5_two_33, eX5_two_34, eX5_two_35, eX5_two_36, eX5_two_37, eX5_two_38, eX5_two_41, eX5_two_42, evb_some, evm_some, evc_some, evc_none, gd, if_true, if_false, eq_self, and_self, and_true, true_and, ne_eq, not_false_eq_true, or_true, true_or, mg, mf0, mf1, mf2, mf3, mf4, mf5, mf6, mf7, mf8, mf9, mf10, mf11, mf12, mf13, mf14, mf15, mf16, mf17, mf18, mf19, mf20, mf21, mf22, mf23, mf24, mf25, mf26, mf27, ma54, ma55, ma56, ma57, ma58, ma59, ma60, ma61, ma62, ma63, ma64, ma65, ma66, ma67, ma68, ma69, ma70, ma71, Int.reduceEq, Int.reduceLT, Int.reduceLE, ↓reduceIte, T5_areTwoY (show 0 ≤ (a : Int) ∧ (a : Int) < d.1 0 ∧ 0 ≤ (b : Int) ∧ (b : Int) < d.1 0 ∧ (a : Int) ≠ (b : Int) by omega), T5_bound, show ¬ (e : Int) < 1 by omega, show ¬ (60 : Int) < (e : Int) by omega, i4]
  rfl
theorem Rla_s {mi' g' gm' : ST} (h : Rla n t mi la g gm) (h1 : DL mi') (hr : GR g g') (hs : GS gm gm' 206) : Rla n t mi' la g' gm' := by
  obtain ⟨a1, a2, a3, a4, a5, ⟨m0, m1, m2, m3, m4, m5, m6, m7⟩, h5, h6, h7, h8, h9, h10, h11, h12, h13, h14⟩ := h
  obtain ⟨q1, q2, q3, q4, q5⟩ := hs
  obtain ⟨r1, r2, r3, r4, r5⟩ := hr
  refine ⟨a1, a2, h1, a4, r5, ⟨by rw [q2 0 (by decide) (by decide)]; exact m0, by rw [q2 1 (by decide) (by decide)]; exact m1, by rw [q2 2 (by decide) (by decide)]; exact m2, by rw [q2 3 (by decide) (by decide)]; exact m3, by rw [q2 4 (by decide) (by decide)]; exact m4, q3, q4, by rw [q2 7 (by decide) (by decide)]; exact m7⟩, ?_, by rw [q1 3 (by decide) (by decide), r1]; exact h6, by rw [r1]; exact h7, by rw [q1 0 (by decide) (by decide), r1]; exact h8, by rw [r1]; exact h9, by rw [q1 6 (by decide) (by decide), r1]; exact h10, by rw [q2 0 (by decide) (by decide), r2]; exact h11, by rw [q2 1 (by decide) (by decide), r3]; exact h12, by rw [q2 7 (by decide) (by decide), r4]; exact h13, by rw [r3]; exact h14⟩
  rw [r1]
  rcases h5 with h5 | ⟨b1, b2, b3⟩
  · exact Or.inl h5
  · exact Or.inr ⟨b1, b2, KB_of b3 (fun j _ hj => q5 j (by omega))⟩
theorem B_two (h : Rla n t mi la g gm) (p q k : Int) : Bth X m_X4_two [vI p, vI q, vI k] m_X5_two [vI p, vI q, vI k, vS, vS] mem n t mi la g gm := by
  have hW := h.1; have hL := hW.1; have h6 := hW.2.1.2; have h8 := hW.2.2.1.2; have hg := Rla_g h; have hm := Rla_m h; obtain ⟨l1, l2, l3, l4, l5, l6, l7, l8, l9, l10⟩ := id hL
  have hk := Rla_k h
  by_cases c1 : 0 ≤ p ∧ p < n.1 0 ∧ 0 ≤ q ∧ q < n.1 0 ∧ p ≠ q
  case neg => exact Bth_no1 h (fun M => by simp only [eX4_two_0, eX4_two_1, eX4_two_4, eX4_two_5, eX4_two_6, eX4_two_9, eX4_two_12, eX4_two_13, eX4_two_14, eX4_two_17, eX4_two_18, eX4_two_19, eX4_two_20, eX4_two_23, eX4_two_24, eX4_two_26, eX4_two_29, eX4_two_30, eX4_two_31, eX4_two_33, eX4_two_36, eX4_two_37, eX4_two_39, eX4_two_42, eX4_two_43, eX4_two_44, eX4_two_47, eX4_two_48, eX4_two_51, eX4_two_52, eX4_two_53, eX4_two_54, eX4_two_57, evb_some, evm_some, evc_some, evc_none, gd, if_true, if_false, eq_self, and_self, and_true, true_and, ne_eq, not_false_eq_true, or_true, true_or, cf0_0, cf0_1, cf0_2, cf0_3, cf0_4, cf0_5, cf0_6, cf23_0, cf23_1, cf23_2, cf23_3, cf48_0, cf48_1, cf50_0, cf50_1, cg0, cg23, cg48, cg50, cg1, cg12, cg24, cg35, Int.reduceEq, Int.reduceLT, Int.reduceLE, ↓reduceIte, n_hasPairN c1, T4_no1 hg]) (fun M => by simp only [eX5_two_0, eX5_two_1, eX5_two_2, eX5_two_3, eX5_two_6, eX5_two_9, eX5_two_10, eX5_two_13, eX5_two_14, eX5_two_15, eX5_two_17, eX5_two_20, eX5_two_22, eX5_two_24, eX5_two_27, eX5_two_28, eX5_two_30, eX5_two_33, evb_some, evm_some, evc_some, evc_none, gd, if_true, if_false, eq_self, and_self, and_true, true_and, ne_eq, not_false_eq_true, or_true, true_or, mg, mf0, mf1, mf2, mf3, mf4, mf5, mf6, mf7, mf8, mf9, mf10, mf11, mf12, mf13, mf14, mf15, mf16, mf17, mf18, mf19, mf20, mf21, mf22, mf23, mf24, mf25, mf26, mf27, ma54, ma55, ma56, ma57, ma58, ma59, ma60, ma61, ma62, ma63, ma64, ma65, ma66, ma67, ma68, ma69, ma70, ma71, Int.reduceEq, Int.reduceLT, Int.reduceLE, ↓reduceIte, T5_areTwoN c1, T5_no1 hm])
  by_cases c2 : k < 1
  · exact Bth_no4 h (fun M => by simp only [eX4_two_0, eX4_two_1, eX4_two_4, eX4_two_5, eX4_two_6, eX4_two_9, eX4_two_12, eX4_two_13, eX4_two_14, eX4_two_17, eX4_two_18, eX4_two_19, eX4_two_20, eX4_two_23, eX4_two_24, eX4_two_26, eX4_two_29, eX4_two_30, eX4_two_31, eX4_two_33, eX4_two_36, eX4_two_37, eX4_two_39, eX4_two_42, eX4_two_43, eX4_two_44, eX4_two_47, eX4_two_48, eX4_two_51, eX4_two_52, eX4_two_53, eX4_two_54, eX4_two_57, evb_some, evm_some, evc_some, evc_none, gd, if_true, if_false, eq_self, and_self, and_true, true_and, ne_eq, not_false_eq_true, or_true, true_or, cf0_0, cf0_1, cf0_2, cf0_3, cf0_4, cf0_5, cf0_6, cf23_0, cf23_1, cf23_2, cf23_3, cf48_0, cf48_1, cf50_0, cf50_1, cg0, cg23, cg48, cg50, cg1, cg12, cg24, cg35, Int.reduceEq, Int.reduceLT, Int.reduceLE, ↓reduceIte, n_hasPairY c1, T4_no4 hg, c2]) (fun M => by simp only [eX5_two_0, eX5_two_1, eX5_two_2, eX5_two_3, eX5_two_6, eX5_two_9, eX5_two_10, eX5_two_13, eX5_two_14, eX5_two_15, eX5_two_17, eX5_two_20, eX5_two_22, eX5_two_24, eX5_two_27, eX5_two_28, eX5_two_30, eX5_two_33, evb_some, evm_some, evc_some, evc_none, gd, if_true, if_false, eq_self, and_self, and_true, true_and, ne_eq, not_false_eq_true, or_true, true_or, mg, mf0, mf1, mf2, mf3, mf4, mf5, mf6, mf7, mf8, mf9, mf10, mf11, mf12, mf13, mf14, mf15, mf16, mf17, mf18, mf19, mf20, mf21, mf22, mf23, mf24, mf25, mf26, mf27, ma54, ma55, ma56, ma57, ma58, ma59, ma60, ma61, ma62, ma63, ma64, ma65, ma66, ma67, ma68, ma69, ma70, ma71, Int.reduceEq, Int.reduceLT, Int.reduceLE, ↓reduceIte, T5_areTwoY c1, T5_bound, c2, T5_no4 hm])
  by_cases c3 : 60 < k
  · exact Bth_no6 h (fun M => by simp only [eX4_two_0, eX4_two_1, eX4_two_4, eX4_two_5, eX4_two_6, eX4_two_9, eX4_two_12, eX4_two_13, eX4_two_14, eX4_two_17, eX4_two_18, eX4_two_19, eX4_two_20, eX4_two_23, eX4_two_24, eX4_two_26, eX4_two_29, eX4_two_30, eX4_two_31, eX4_two_33, eX4_two_36, eX4_two_37, eX4_two_39, eX4_two_42, eX4_two_43, eX4_two_44, eX4_two_47, eX4_two_48, eX4_two_51, eX4_two_52, eX4_two_53, eX4_two_54, eX4_two_57, evb_some, evm_some, evc_some, evc_none, gd, if_true, if_false, eq_self, and_self, and_true, true_and, ne_eq, not_false_eq_true, or_true, true_or, cf0_0, cf0_1, cf0_2, cf0_3, cf0_4, cf0_5, cf0_6, cf23_0, cf23_1, cf23_2, cf23_3, cf48_0, cf48_1, cf50_0, cf50_1, cg0, cg23, cg48, cg50, cg1, cg12, cg24, cg35, Int.reduceEq, Int.reduceLT, Int.reduceLE, ↓reduceIte, n_hasPairY c1, T4_no6 hg, c2, c3]) (fun M => by simp only [eX5_two_0, eX5_two_1, eX5_two_2, eX5_two_3, eX5_two_6, eX5_two_9, eX5_two_10, eX5_two_13, eX5_two_14, eX5_two_15, eX5_two_17, eX5_two_20, eX5_two_22, eX5_two_24, eX5_two_27, eX5_two_28, eX5_two_30, eX5_two_33, evb_some, evm_some, evc_some, evc_none, gd, if_true, if_false, eq_self, and_self, and_true, true_and, ne_eq, not_false_eq_true, or_true, true_or, mg, mf0, mf1, mf2, mf3, mf4, mf5, mf6, mf7, mf8, mf9, mf10, mf11, mf12, mf13, mf14, mf15, mf16, mf17, mf18, mf19, mf20, mf21, mf22, mf23, mf24, mf25, mf26, mf27, ma54, ma55, ma56, ma57, ma58, ma59, ma60, ma61, ma62, ma63, ma64, ma65, ma66, ma67, ma68, ma69, ma70, ma71, Int.reduceEq, Int.reduceLT, Int.reduceLE, ↓reduceIte, T5_areTwoY c1, T5_bound, c2, c3, T5_no6 hm])
  obtain ⟨e, rfl⟩ := n2i (show 0 ≤ k by omega)
  obtain ⟨i, j, rfl, rfl, hi, hj, hij, hji, i6, j6, ij, ji⟩ := two_n h6 c1
  obtain ⟨mi', g', s1, s2, s3⟩ := T3_court (X := X) (mem := mpt mem gm n) (t := t) (la := la) hW h.2.2.1 hg hi hj hij (show e < 2147483647 by omega)
  obtain ⟨gm', s4, s5⟩ := T5_two (X := X) (mem := cpt mem n t mi' la g') hW hk hm.2.2.2.2.2.2.1 hi hj hij (show 1 ≤ e ∧ e ≤ 60 by omega)
  exact ⟨_, n, t, mi', la, g', gm', by simp only [eX4_two_0, eX4_two_1, eX4_two_4, eX4_two_5, eX4_two_6, eX4_two_9, eX4_two_12, eX4_two_13, eX4_two_14, eX4_two_17, eX4_two_18, eX4_two_19, eX4_two_20, eX4_two_23, eX4_two_24, eX4_two_26, eX4_two_29, eX4_two_30, eX4_two_31, eX4_two_33, eX4_two_36, eX4_two_37, eX4_two_39, eX4_two_42, eX4_two_43, eX4_two_44, eX4_two_47, eX4_two_48, eX4_two_51, eX4_two_52, eX4_two_53, eX4_two_54, eX4_two_57, evb_some, evm_some, evc_some, evc_none, gd, if_true, if_false, eq_self, and_self, and_true, true_and, ne_eq, not_false_eq_true, or_true, true_or, cf0_0, cf0_1, cf0_2, cf0_3, cf0_4, cf0_5, cf0_6, cf23_0, cf23_1, cf23_2, cf23_3, cf48_0, cf48_1, cf50_0, cf50_1, cg0, cg23, cg48, cg50, cg1, cg12, cg24, cg35, Int.reduceEq, Int.reduceLT, Int.reduceLE, ↓reduceIte, n_hasPairY c1, c2, c3, s3], s5, Rla_s h s1 s2 s4⟩
end TW
