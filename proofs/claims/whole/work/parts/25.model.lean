/-! THE REFERENCE'S METHODS: readers, a day -/
section MO
variable {X : List Int} {mem : AM} {g d : ST}
theorem w32_s (n : Int) : w32 (w32 n) = w32 n := w32_w n
theorem T5_isIn {v a b : Int} {M : AM} : ev X m_X5_isIn 0 [vI v, vI a, vI b] [] M = some (some (vI (if a ≤ v ∧ v ≤ b then 1 else 0)), M) := by
  simp only [eX5_isIn_0, eX5_isIn_1, eX5_isIn_2, eX5_isIn_5, eX5_isIn_6, eX5_isIn_7, eX5_isIn_10, eX5_isIn_11, eX5_isIn_14, eX5_isIn_15a, eX5_isIn_15b, eX5_isIn_15c, evb_some, evm_some, evc_some, evc_none, gd, if_true, if_false, eq_self, and_self, and_true, true_and, ne_eq, not_false_eq_true, or_true, true_or]
  (repeat' split) <;> first | rfl | omega
theorem T5_bound {v a b : Int} {M : AM} : ev X m_X5_bound 0 [vI v, vI a, vI b] [] M = some (some (vI (if v < a then -4 else if b < v then -6 else 0)), M) := by
  simp only [eX5_bound_0, eX5_bound_1, eX5_bound_2, eX5_bound_5, eX5_bound_7, eX5_bound_10, eX5_bound_11, eX5_bound_12, eX5_bound_15, eX5_bound_17, eX5_bound_20, eX5_bound_21, evb_some, evm_some, evc_some, evc_none, gd, if_true, if_false, eq_self, and_self, and_true, true_and, ne_eq, not_false_eq_true, or_true, true_or]
  (repeat' split) <;> first | rfl | omega
theorem T5_notDays {v : Int} {M : AM} : ev X m_X5_notDays 0 [vI v] [] M = some (some (vI (if v < 0 then -4 else if 99 < v then -6 else 0)), M) := by
  simp only [eX5_notDays_0, eX5_notDays_1, eX5_notDays_2, eX5_notDays_4, eX5_notDays_7, evb_some, evm_some, evc_some, evc_none, gd, if_true, if_false, eq_self, and_self, and_true, true_and, ne_eq, not_false_eq_true, or_true, true_or, T5_bound]
theorem T5_held {v a b : Int} {M : AM} : ev X m_X5_held 0 [vI v, vI a, vI b] [] M = some (some (vI (if v < a then a else if b < v then b else v)), M) := by
  simp only [eX5_held_0, eX5_held_1, eX5_held_2, eX5_held_5, eX5_held_6, eX5_held_9, eX5_held_10, eX5_held_11, eX5_held_14, eX5_held_15, eX5_held_18, eX5_held_19, evb_some, evm_some, evc_some, evc_none, gd, if_true, if_false, eq_self, and_self, and_true, true_and, ne_eq, not_false_eq_true, or_true, true_or]
  (repeat' split) <;> first | rfl | omega
theorem T5_has {s k : Int} {M : AM} : ev X m_X5_has 0 [vI s, vI k] [] M = some (some (vI (if and32 (shr32 s k) 1 = 1 then 1 else 0)), M) := by
  simp only [eX5_has_0, eX5_has_1, eX5_has_2, eX5_has_3, eX5_has_4, eX5_has_5, eX5_has_6, eX5_has_9, eX5_has_10, eX5_has_13, eX5_has_14a, eX5_has_14b, eX5_has_14c, evb_some, evm_some, evc_some, evc_none, gd, if_true, if_false, eq_self, and_self, and_true, true_and, ne_eq, not_false_eq_true, or_true, true_or]
  (repeat' split) <;> first | rfl | omega
theorem T5_apart {a b : Int} {M : AM} : ev X m_X5_apart 0 [vI a, vI b] [] M = some (some (vI (if b < a then w32 (a - b) else w32 (b - a))), M) := by
  simp only [eX5_apart_0, eX5_apart_1, eX5_apart_2, eX5_apart_5, eX5_apart_6, eX5_apart_7, eX5_apart_8, eX5_apart_11, eX5_apart_12, eX5_apart_13, eX5_apart_14, evb_some, evm_some, evc_some, evc_none, gd, if_true, if_false, eq_self, and_self, and_true, true_and, ne_eq, not_false_eq_true, or_true, true_or]
  (repeat' split) <;> first | rfl | omega
theorem T5_isOne {p : Int} : ev X m_X5_isOne 0 [vR 53, vI p] [] (mpt mem g d) = some (some (vI (if 0 ≤ p ∧ p < d.1 0 then 1 else 0)), mpt mem g d) := by
  simp only [eX5_isOne_0, eX5_isOne_1, eX5_isOne_4, eX5_isOne_5, eX5_isOne_6, eX5_isOne_9, eX5_isOne_12, eX5_isOne_13, eX5_isOne_16, eX5_isOne_17a, eX5_isOne_17b, eX5_isOne_17c, evb_some, evm_some, evc_some, evc_none, gd, if_true, if_false, eq_self, and_self, and_true, true_and, ne_eq, not_false_eq_true, or_true, true_or, mg, mf0, mf1, mf2, mf3, mf4, mf5, mf6, mf7, mf8, mf9, mf10, mf11, mf12, mf13, mf14, mf15, mf16, mf17, mf18, mf19, mf20, mf21, mf22, mf23, mf24, mf25, mf26, mf27]
  (repeat' split) <;> first | rfl | omega
theorem T5_isOneY {p : Int} (h : 0 ≤ p ∧ p < d.1 0) : ev X m_X5_isOne 0 [vR 53, vI p] [] (mpt mem g d) = some (some (vI 1), mpt mem g d) := by rw [T5_isOne, if_pos h]
theorem T5_isOneN {p : Int} (h : ¬ (0 ≤ p ∧ p < d.1 0)) : ev X m_X5_isOne 0 [vR 53, vI p] [] (mpt mem g d) = some (some (vI 0), mpt mem g d) := by rw [T5_isOne, if_neg h]
theorem T5_isParcel {p : Int} : ev X m_X5_isParcel 0 [vR 53, vI p] [] (mpt mem g d) = some (some (vI (if 0 ≤ p ∧ p < d.1 1 then 1 else 0)), mpt mem g d) := by
  simp only [eX5_isParcel_0, eX5_isParcel_1, eX5_isParcel_4, eX5_isParcel_5, eX5_isParcel_6, eX5_isParcel_9, eX5_isParcel_12, eX5_isParcel_13, eX5_isParcel_16, eX5_isParcel_17a, eX5_isParcel_17b, eX5_isParcel_17c, evb_some, evm_some, evc_some, evc_none, gd, if_true, if_false, eq_self, and_self, and_true, true_and, ne_eq, not_false_eq_true, or_true, true_or, mg, mf0, mf1, mf2, mf3, mf4, mf5, mf6, mf7, mf8, mf9, mf10, mf11, mf12, mf13, mf14, mf15, mf16, mf17, mf18, mf19, mf20, mf21, mf22, mf23, mf24, mf25, mf26, mf27]
  (repeat' split) <;> first | rfl | omega
theorem T5_isParcelY {p : Int} (h : 0 ≤ p ∧ p < d.1 1) : ev X m_X5_isParcel 0 [vR 53, vI p] [] (mpt mem g d) = some (some (vI 1), mpt mem g d) := by rw [T5_isParcel, if_pos h]
theorem T5_isParcelN {p : Int} (h : ¬ (0 ≤ p ∧ p < d.1 1)) : ev X m_X5_isParcel 0 [vR 53, vI p] [] (mpt mem g d) = some (some (vI 0), mpt mem g d) := by rw [T5_isParcel, if_neg h]
theorem T5_areTwo {p q : Int} {z : AV} : ev X m_X5_areTwo 0 [vR 53, vI p, vI q] [] (mpt mem g d) = some (some (vI (if 0 ≤ p ∧ p < d.1 0 ∧ 0 ≤ q ∧ q < d.1 0 ∧ p ≠ q then 1 else 0)), mpt mem g d) := by
  by_cases h1 : 0 ≤ p ∧ p < d.1 0
  · by_cases h2 : 0 ≤ q ∧ q < d.1 0
    · simp only [eX5_areTwo_0, eX5_areTwo_1, eX5_areTwo_2, eX5_areTwo_5, eX5_areTwo_8, eX5_areTwo_9, eX5_areTwo_10, eX5_areTwo_13, eX5_areTwo_16, eX5_areTwo_17, eX5_areTwo_18, eX5_areTwo_21, eX5_areTwo_22, eX5_areTwo_25, eX5_areTwo_26a, eX5_areTwo_26b, eX5_areTwo_26c, evb_some, evm_some, evc_some, evc_none, gd, if_true, if_false, eq_self, and_self, and_true, true_and, ne_eq, not_false_eq_true, or_true, true_or, mg, mf0, mf1, mf2, mf3, mf4, mf5, mf6, mf7, mf8, mf9, mf10, mf11, mf12, mf13, mf14, mf15, mf16, mf17, mf18, mf19, mf20, mf21, mf22, mf23, mf24, mf25, mf26, mf27, T5_isOneY h1, T5_isOneY h2, show ¬ (1 : Int) = 0 by decide]
      (repeat' split) <;> first | rfl | omega
    · simp only [eX5_areTwo_0, eX5_areTwo_1, eX5_areTwo_2, eX5_areTwo_5, eX5_areTwo_8, eX5_areTwo_9, eX5_areTwo_10, eX5_areTwo_13, eX5_areTwo_16, eX5_areTwo_17, eX5_areTwo_18, eX5_areTwo_21, eX5_areTwo_22, eX5_areTwo_25, eX5_areTwo_26a, eX5_areTwo_26b, eX5_areTwo_26c, evb_some, evm_some, evc_some, evc_none, gd, if_true, if_false, eq_self, and_self, and_true, true_and, ne_eq, not_false_eq_true, or_true, true_or, mg, mf0, mf1, mf2, mf3, mf4, mf5, mf6, mf7, mf8, mf9, mf10, mf11, mf12, mf13, mf14, mf15, mf16, mf17, mf18, mf19, mf20, mf21, mf22, mf23, mf24, mf25, mf26, mf27, T5_isOneY h1, T5_isOneN h2, show ¬ (1 : Int) = 0 by decide]
      (repeat' split) <;> first | rfl | omega
  · simp only [eX5_areTwo_0, eX5_areTwo_1, eX5_areTwo_2, eX5_areTwo_5, eX5_areTwo_8, eX5_areTwo_9, eX5_areTwo_10, eX5_areTwo_13, eX5_areTwo_16, eX5_areTwo_17, eX5_areTwo_18, eX5_areTwo_21, eX5_areTwo_22, eX5_areTwo_25, eX5_areTwo_26a, eX5_areTwo_26b, eX5_areTwo_26c, evb_some, evm_some, evc_some, evc_none, gd, if_true, if_false, eq_self, and_self, and_true, true_and, ne_eq, not_false_eq_true, or_true, true_or, mg, mf0, mf1, mf2, mf3, mf4, mf5, mf6, mf7, mf8, mf9, mf10, mf11, mf12, mf13, mf14, mf15, mf16, mf17, mf18, mf19, mf20, mf21, mf22, mf23, mf24, mf25, mf26, mf27, T5_isOneN h1]
    (repeat' split) <;> first | rfl | omega
theorem T5_areTwoY {p q : Int} (h : 0 ≤ p ∧ p < d.1 0 ∧ 0 ≤ q ∧ q < d.1 0 ∧ p ≠ q) : ev X m_X5_areTwo 0 [vR 53, vI p, vI q] [] (mpt mem g d) = some (some (vI 1), mpt mem g d) := by rw [T5_areTwo (z := vS), if_pos h]
theorem T5_areTwoN {p q : Int} (h : ¬ (0 ≤ p ∧ p < d.1 0 ∧ 0 ≤ q ∧ q < d.1 0 ∧ p ≠ q)) : ev X m_X5_areTwo 0 [vR 53, vI p, vI q] [] (mpt mem g d) = some (some (vI 0), mpt mem g d) := by rw [T5_areTwo (z := vS), if_neg h]
theorem T5_spot {i j : Nat} (hi : i < 6) (hj : j < 6) {M : AM} : ev X m_X5_spot 0 [vI (i : Int), vI (j : Int)] [] M = some (some (vI ((6 * i + j : Nat) : Int)), M) := by
  simp only [eX5_spot_0, eX5_spot_2, eX5_spot_3, eX5_spot_4, eX5_spot_5, eX5_spot_6, evb_some, evm_some, evc_some, evc_none, gd, if_true, if_false, eq_self, and_self, and_true, true_and, ne_eq, not_false_eq_true, or_true, true_or, w32_idx2 hi hj]
theorem T5_milesOf (hL : DL d) {i : Nat} (hi : i < 6) : ev X m_X5_milesOf 0 [vR 53, vI (i : Int)] [] (mpt mem g d) = some (some (vI (miles ((d.2 1).getD i 0))), mpt mem g d) := by
  obtain ⟨l1, l2, l3, l4, l5, l6, l7, l8, l9, l10⟩ := hL
  simp only [eX5_milesOf_0, eX5_milesOf_1, eX5_milesOf_4, eX5_milesOf_5, eX5_milesOf_6, eX5_milesOf_9, eX5_milesOf_10, eX5_milesOf_13, eX5_milesOf_14, eX5_milesOf_17, eX5_milesOf_18, eX5_milesOf_19, eX5_milesOf_20, eX5_milesOf_23, eX5_milesOf_24, eX5_milesOf_27, eX5_milesOf_28, eX5_milesOf_31, eX5_milesOf_32, eX5_milesOf_33, eX5_milesOf_34, eX5_milesOf_37, eX5_milesOf_38, eX5_milesOf_41, eX5_milesOf_42, evb_some, evm_some, evc_some, evc_none, gd, if_true, if_false, eq_self, and_self, and_true, true_and, ne_eq, not_false_eq_true, or_true, true_or, mg, mf0, mf1, mf2, mf3, mf4, mf5, mf6, mf7, mf8, mf9, mf10, mf11, mf12, mf13, mf14, mf15, mf16, mf17, mf18, mf19, mf20, mf21, mf22, mf23, mf24, mf25, mf26, mf27, ma54, ma55, ma56, ma57, ma58, ma59, ma60, ma61, ma62, ma63, ma64, ma65, ma66, ma67, ma68, ma69, ma70, ma71, l1, hi, miles]
  (repeat' split) <;> first | rfl | omega
theorem T5_maliceOf (h : DW d) {i j : Nat} (hi : (i : Int) < d.1 0) (hj : (j : Int) < d.1 0) (hij : i ≠ j) {y1 y2 : AV} : ev X m_X5_maliceOf 0 [vR 53, vI (i : Int), vI (j : Int), y1, y2] [] (mpt mem g d) = some (some (vI (mal d i j)), mpt mem g d) := by
  obtain ⟨⟨l1, l2, l3, l4, l5, l6, l7, l8, l9, l10⟩, h6, h8, hp, -⟩ := h
  have i6 : i < 6 := by omega
  have j6 : j < 6 := by omega
  have ij : 6 * i + j < 36 := by omega
  have p1 := hp i i6
  have p2 := hp j j6
  unfold mal
  dsimp only
  rw [w32_id (n := (d.2 3).getD i 0 - (d.2 3).getD j 0) (by omega) (by omega)]
  simp only [eX5_maliceOf_0, eX5_maliceOf_1, eX5_maliceOf_4, eX5_maliceOf_5, eX5_maliceOf_6, eX5_maliceOf_9, eX5_maliceOf_10, eX5_maliceOf_11, eX5_maliceOf_12, eX5_maliceOf_15, eX5_maliceOf_16, eX5_maliceOf_17, eX5_maliceOf_20, eX5_maliceOf_21, eX5_maliceOf_22, eX5_maliceOf_23, eX5_maliceOf_26, eX5_maliceOf_27, eX5_maliceOf_29, eX5_maliceOf_30, eX5_maliceOf_33, eX5_maliceOf_34, eX5_maliceOf_35, eX5_maliceOf_68, eX5_maliceOf_69, eX5_maliceOf_70, eX5_maliceOf_71, eX5_maliceOf_72, eX5_maliceOf_74, eX5_maliceOf_75, eX5_maliceOf_76, eX5_maliceOf_78, eX5_maliceOf_79, eX5_maliceOf_80, eX5_maliceOf_81, eX5_maliceOf_82, eX5_maliceOf_83, eX5_maliceOf_84, eX5_maliceOf_87, eX5_maliceOf_88, eX5_maliceOf_89, eX5_maliceOf_90, eX5_maliceOf_91, eX5_maliceOf_92, eX5_maliceOf_95, eX5_maliceOf_96, eX5_maliceOf_97, eX5_maliceOf_98, eX5_maliceOf_101, eX5_maliceOf_102, eX5_maliceOf_103, eX5_maliceOf_106, eX5_maliceOf_108, eX5_maliceOf_111, eX5_maliceOf_112, eX5_maliceOf_115, eX5_maliceOf_116, eX5_maliceOf_118, eX5_maliceOf_119, eX5_maliceOf_120, eX5_maliceOf_121, evb_some, evm_some, evc_some, evc_none, gd, if_true, if_false, eq_self, and_self, and_true, true_and, ne_eq, not_false_eq_true, or_true, true_or, mg, mf0, mf1, mf2, mf3, mf4, mf5, mf6, mf7, mf8, mf9, mf10, mf11, mf12, mf13, mf14, mf15, mf16, mf17, mf18, mf19, mf20, mf21, mf22, mf23, mf24, mf25, mf26, mf27, ma54, ma55, ma56, ma57, ma58, ma59, ma60, ma61, ma62, ma63, ma64, ma65, ma66, ma67, ma68, ma69, ma70, ma71, T5_spot i6 j6, T5_apart, l1, l2, l3, l5, i6, j6, ij, if_neg z2]
  generalize (d.2 5).getD (6 * i + j) 0 = h at *
  generalize (d.2 2).getD i 0 = f at *
  generalize (d.2 1).getD i 0 = k at *
  generalize (d.2 3).getD i 0 = a at *
  generalize (d.2 3).getD j 0 = b at *
  rw [w32_id (n := a - b) (by omega) (by omega), w32_id (n := b - a) (by omega) (by omega)]
  (repeat' split) <;> first | rfl | omega
/-- ENEMY as the reference seeks him -/
def beF (d : ST) (q : Nat) (but : Int) (k : Nat) (b : Int) : Int := if (k : Int) = q then b else if (k : Int) = but then b else if b < 0 then (k : Int) else if mal d b.toNat q < mal d k q then (k : Int) else b
theorem be_en (d : ST) (q : Nat) (but : Int) : ∀ (n k : Nat) (b e m : Int), (e = -9 ∧ m = 4 ∧ (b = -9 ∨ (0 ≤ b ∧ mal d b.toNat q ≤ 4)) ∨ (0 ≤ e ∧ b = e ∧ m = mal d e.toNat q ∧ 5 ≤ m)) →
    (itr (enF d q but) n k (e, m)).1 = if itr (beF d q but) n k b < 0 then -9 else if mal d (itr (beF d q but) n k b).toNat q < 5 then -9 else itr (beF d q but) n k b
  | 0, k, b, e, m, h => by
    show e = if b < 0 then -9 else if mal d b.toNat q < 5 then -9 else b
    rcases h with ⟨h1, h2, h3 | h3⟩ | ⟨h1, h2, h3, h4⟩
    · rw [if_pos (by omega)]; exact h1
    · rw [if_neg (by omega), if_pos (by omega)]; exact h1
    · rw [h2, if_neg (by omega), if_neg (by omega)]
  | n + 1, k, b, e, m, h => by
    refine (show _ from be_en d q but n (k + 1) (beF d q but k b) (enF d q but k (e, m)).1 (enF d q but k (e, m)).2 ?_)
    unfold enF beF
    dsimp only
    by_cases c1 : (k : Int) = q
    · rw [if_pos c1, if_pos c1]; exact h
    rw [if_neg c1, if_neg c1]
    by_cases c2 : (k : Int) = but
    · rw [if_pos c2, if_pos c2]; exact h
    rw [if_neg c2, if_neg c2]
    rcases h with ⟨h1, h2, h3 | h3⟩ | ⟨h1, h2, h3, h4⟩
    · rw [if_pos (show b < 0 by omega)]
      by_cases c3 : m < mal d k q
      · rw [if_pos c3]
        exact Or.inr ⟨by dsimp only; omega, rfl, by simp, by dsimp only; omega⟩
      · rw [if_neg c3]
        exact Or.inl ⟨h1, h2, Or.inr ⟨by omega, by rw [Int.toNat_natCast]; omega⟩⟩
    · rw [if_neg (show ¬ b < 0 by omega)]
      by_cases c3 : m < mal d k q
      · rw [if_pos c3, if_pos (by omega)]
        exact Or.inr ⟨by dsimp only; omega, rfl, by simp, by dsimp only; omega⟩
      · rw [if_neg c3]
        refine Or.inl ⟨h1, h2, Or.inr ?_⟩
        split
        · exact ⟨by omega, by rw [Int.toNat_natCast]; omega⟩
        · exact h3
    · rw [if_neg (show ¬ b < 0 by omega)]
      subst h2
      by_cases c3 : m < mal d k q
      · rw [if_pos c3, if_pos (by omega)]
        exact Or.inr ⟨by dsimp only; omega, rfl, by simp, by dsimp only; omega⟩
      · rw [if_neg c3, if_neg (by omega)]
        exact Or.inr ⟨h1, rfl, h3, h4⟩
theorem be_b (d : ST) (q : Nat) (but : Int) (N : Nat) : ∀ n k b, k + n = N → (b = -9 ∨ (0 ≤ b ∧ b < (k : Int) ∧ b ≠ q)) → (itr (beF d q but) n k b = -9 ∨ (0 ≤ itr (beF d q but) n k b ∧ itr (beF d q but) n k b < (N : Int) ∧ itr (beF d q but) n k b ≠ q)) :=
  itr_inv (f := beF d q but) (fun (k : Nat) (b : Int) => b = -9 ∨ (0 ≤ b ∧ b < (k : Int) ∧ b ≠ q)) N (fun k b hk hi => by
    unfold beF
    (repeat' split) <;> omega)
theorem T5_enemyBut (h : DW d) {q : Nat} {but : Int} (hq : (q : Int) < d.1 0) {y1 y2 : AV} : ev X m_X5_enemyBut 0 [vR 53, vI (q : Int), vI but, y1, y2] [] (mpt mem g d) = some (some (vI (ene d q but)), mpt mem g d) := by
  obtain ⟨N, hN⟩ := n2i h.2.1.1
  have N6 : N ≤ 6 := by have := h.2.1.2; omega
  have key : ∀ n k b, k + n = N → (b = -9 ∨ (0 ≤ b ∧ b < (k : Int) ∧ b ≠ q)) → ev X m_X5_enemyBut 6 [vR 53, vI (q : Int), vI but, vI b, vI (k : Int)] [] (mpt mem g d) = ev X m_X5_enemyBut 56 [vR 53, vI (q : Int), vI but, vI (itr (beF d q but) n k b), vI (N : Int)] [] (mpt mem g d) := by
    intro n
    induction n with
    | zero =>
      intro k b hk hb
      have c1 : ¬ (k : Int) < d.1 0 := by omega
      rw [eX5_enemyBut_6]
      simp only [eX5_enemyBut_0, eX5_enemyBut_2, eX5_enemyBut_3, eX5_enemyBut_4, eX5_enemyBut_8, eX5_enemyBut_9, eX5_enemyBut_12, eX5_enemyBut_15, eX5_enemyBut_17, eX5_enemyBut_18, eX5_enemyBut_21, eX5_enemyBut_23, eX5_enemyBut_24, eX5_enemyBut_27, eX5_enemyBut_28, eX5_enemyBut_31, eX5_enemyBut_32, eX5_enemyBut_34, eX5_enemyBut_35, eX5_enemyBut_38, eX5_enemyBut_39, eX5_enemyBut_40, eX5_enemyBut_41, eX5_enemyBut_44, eX5_enemyBut_47, eX5_enemyBut_49, eX5_enemyBut_50, eX5_enemyBut_53, evb_some, evm_some, evc_some, evc_none, gd, if_true, if_false, eq_self, and_self, and_true, true_and, ne_eq, not_false_eq_true, or_true, true_or, mg, mf0, mf1, mf2, mf3, mf4, mf5, mf6, mf7, mf8, mf9, mf10, mf11, mf12, mf13, mf14, mf15, mf16, mf17, mf18, mf19, mf20, mf21, mf22, mf23, mf24, mf25, mf26, mf27, if_neg c1, itr]
      rw [show k = N by omega]
    | succ n ih =>
      intro k b hk hb
      have c1 : (k : Int) < d.1 0 := by omega
      have ih2 := ih (k + 1) (beF d q but k b) (by omega) (by unfold beF; (repeat' split) <;> omega)
      rw [eX5_enemyBut_6]
      by_cases h1 : (k : Int) = (q : Int)
      · rw [beF, if_pos h1] at ih2
        simp only [eX5_enemyBut_0, eX5_enemyBut_2, eX5_enemyBut_3, eX5_enemyBut_4, eX5_enemyBut_8, eX5_enemyBut_9, eX5_enemyBut_12, eX5_enemyBut_15, eX5_enemyBut_17, eX5_enemyBut_18, eX5_enemyBut_21, eX5_enemyBut_23, eX5_enemyBut_24, eX5_enemyBut_27, eX5_enemyBut_28, eX5_enemyBut_31, eX5_enemyBut_32, eX5_enemyBut_34, eX5_enemyBut_35, eX5_enemyBut_38, eX5_enemyBut_39, eX5_enemyBut_40, eX5_enemyBut_41, eX5_enemyBut_44, eX5_enemyBut_47, eX5_enemyBut_49, eX5_enemyBut_50, eX5_enemyBut_53, evb_some, evm_some, evc_some, evc_none, gd, if_true, if_false, eq_self, and_self, and_true, true_and, ne_eq, not_false_eq_true, or_true, true_or, mg, mf0, mf1, mf2, mf3, mf4, mf5, mf6, mf7, mf8, mf9, mf10, mf11, mf12, mf13, mf14, mf15, mf16, mf17, mf18, mf19, mf20, mf21, mf22, mf23, mf24, mf25, mf26, mf27, if_pos c1, if_pos h1, w32_k1 (show k < 2147483647 by omega), itr, ih2]
        rw [beF, if_pos h1]
      by_cases h2 : (k : Int) = but
      · rw [beF, if_neg h1, if_pos h2] at ih2
        simp only [eX5_enemyBut_0, eX5_enemyBut_2, eX5_enemyBut_3, eX5_enemyBut_4, eX5_enemyBut_8, eX5_enemyBut_9, eX5_enemyBut_12, eX5_enemyBut_15, eX5_enemyBut_17, eX5_enemyBut_18, eX5_enemyBut_21, eX5_enemyBut_23, eX5_enemyBut_24, eX5_enemyBut_27, eX5_enemyBut_28, eX5_enemyBut_31, eX5_enemyBut_32, eX5_enemyBut_34, eX5_enemyBut_35, eX5_enemyBut_38, eX5_enemyBut_39, eX5_enemyBut_40, eX5_enemyBut_41, eX5_enemyBut_44, eX5_enemyBut_47, eX5_enemyBut_49, eX5_enemyBut_50, eX5_enemyBut_53, evb_some, evm_some, evc_some, evc_none, gd, if_true, if_false, eq_self, and_self, and_true, true_and, ne_eq, not_false_eq_true, or_true, true_or, mg, mf0, mf1, mf2, mf3, mf4, mf5, mf6, mf7, mf8, mf9, mf10, mf11, mf12, mf13, mf14, mf15, mf16, mf17, mf18, mf19, mf20, mf21, mf22, mf23, mf24, mf25, mf26, mf27, if_pos c1, if_neg h1, if_pos h2, w32_k1 (show k < 2147483647 by omega), itr, ih2]
        rw [beF, if_neg h1, if_pos h2]
      have hm := T5_maliceOf (X := X) (mem := mem) (g := g) (y1 := vS) (y2 := vS) h c1 hq (show k ≠ q by omega)
      by_cases h3 : b < 0
      · rw [beF, if_neg h1, if_neg h2, if_pos h3] at ih2
        simp only [eX5_enemyBut_0, eX5_enemyBut_2, eX5_enemyBut_3, eX5_enemyBut_4, eX5_enemyBut_8, eX5_enemyBut_9, eX5_enemyBut_12, eX5_enemyBut_15, eX5_enemyBut_17, eX5_enemyBut_18, eX5_enemyBut_21, eX5_enemyBut_23, eX5_enemyBut_24, eX5_enemyBut_27, eX5_enemyBut_28, eX5_enemyBut_31, eX5_enemyBut_32, eX5_enemyBut_34, eX5_enemyBut_35, eX5_enemyBut_38, eX5_enemyBut_39, eX5_enemyBut_40, eX5_enemyBut_41, eX5_enemyBut_44, eX5_enemyBut_47, eX5_enemyBut_49, eX5_enemyBut_50, eX5_enemyBut_53, evb_some, evm_some, evc_some, evc_none, gd, if_true, if_false, eq_self, and_self, and_true, true_and, ne_eq, not_false_eq_true, or_true, true_or, mg, mf0, mf1, mf2, mf3, mf4, mf5, mf6, mf7, mf8, mf9, mf10, mf11, mf12, mf13, mf14, mf15, mf16, mf17, mf18, mf19, mf20, mf21, mf22, mf23, mf24, mf25, mf26, mf27, if_pos c1, if_neg h1, if_neg h2, if_pos h3, w32_k1 (show k < 2147483647 by omega), itr, ih2]
        rw [beF, if_neg h1, if_neg h2, if_pos h3]
      obtain ⟨e, he⟩ := n2i (show 0 ≤ b by omega)
      subst he
      have hm2 := T5_maliceOf (X := X) (mem := mem) (g := g) (y1 := vS) (y2 := vS) h (show (e : Int) < d.1 0 by omega) hq (show e ≠ q by omega)
      by_cases h4 : mal d e q < mal d k q
      · rw [beF, if_neg h1, if_neg h2, if_neg h3, Int.toNat_natCast, if_pos h4] at ih2
        simp only [eX5_enemyBut_0, eX5_enemyBut_2, eX5_enemyBut_3, eX5_enemyBut_4, eX5_enemyBut_8, eX5_enemyBut_9, eX5_enemyBut_12, eX5_enemyBut_15, eX5_enemyBut_17, eX5_enemyBut_18, eX5_enemyBut_21, eX5_enemyBut_23, eX5_enemyBut_24, eX5_enemyBut_27, eX5_enemyBut_28, eX5_enemyBut_31, eX5_enemyBut_32, eX5_enemyBut_34, eX5_enemyBut_35, eX5_enemyBut_38, eX5_enemyBut_39, eX5_enemyBut_40, eX5_enemyBut_41, eX5_enemyBut_44, eX5_enemyBut_47, eX5_enemyBut_49, eX5_enemyBut_50, eX5_enemyBut_53, evb_some, evm_some, evc_some, evc_none, gd, if_true, if_false, eq_self, and_self, and_true, true_and, ne_eq, not_false_eq_true, or_true, true_or, mg, mf0, mf1, mf2, mf3, mf4, mf5, mf6, mf7, mf8, mf9, mf10, mf11, mf12, mf13, mf14, mf15, mf16, mf17, mf18, mf19, mf20, mf21, mf22, mf23, mf24, mf25, mf26, mf27, if_pos c1, if_neg h1, if_neg h2, if_neg h3, hm, hm2, if_pos h4, w32_k1 (show k < 2147483647 by omega), itr, ih2]
        rw [beF, if_neg h1, if_neg h2, if_neg h3, Int.toNat_natCast, if_pos h4]
      · rw [beF, if_neg h1, if_neg h2, if_neg h3, Int.toNat_natCast, if_neg h4] at ih2
        simp only [eX5_enemyBut_0, eX5_enemyBut_2, eX5_enemyBut_3, eX5_enemyBut_4, eX5_enemyBut_8, eX5_enemyBut_9, eX5_enemyBut_12, eX5_enemyBut_15, eX5_enemyBut_17, eX5_enemyBut_18, eX5_enemyBut_21, eX5_enemyBut_23, eX5_enemyBut_24, eX5_enemyBut_27, eX5_enemyBut_28, eX5_enemyBut_31, eX5_enemyBut_32, eX5_enemyBut_34, eX5_enemyBut_35, eX5_enemyBut_38, eX5_enemyBut_39, eX5_enemyBut_40, eX5_enemyBut_41, eX5_enemyBut_44, eX5_enemyBut_47, eX5_enemyBut_49, eX5_enemyBut_50, eX5_enemyBut_53, evb_some, evm_some, evc_some, evc_none, gd, if_true, if_false, eq_self, and_self, and_true, true_and, ne_eq, not_false_eq_true, or_true, true_or, mg, mf0, mf1, mf2, mf3, mf4, mf5, mf6, mf7, mf8, mf9, mf10, mf11, mf12, mf13, mf14, mf15, mf16, mf17, mf18, mf19, mf20, mf21, mf22, mf23, mf24, mf25, mf26, mf27, if_pos c1, if_neg h1, if_neg h2, if_neg h3, hm, hm2, if_neg h4, w32_k1 (show k < 2147483647 by omega), itr, ih2]
        rw [beF, if_neg h1, if_neg h2, if_neg h3, Int.toNat_natCast, if_neg h4]
  have e1 := be_en d q but N 0 (-9) (-9) 4 (Or.inl ⟨rfl, rfl, Or.inl rfl⟩)
  have e2 := be_b d q but N N 0 (-9) (by omega) (Or.inl rfl)
  rw [ene, show (d.1 0).toNat = N by omega, e1]
  refine Eq.trans (by simp only [eX5_enemyBut_0, eX5_enemyBut_2, eX5_enemyBut_3, eX5_enemyBut_4]; rfl) ((key N 0 (-9) (by omega) (Or.inl rfl)).trans ?_)
  generalize itr (beF d q but) N 0 (-9) = b at e2 ⊢
  by_cases h3 : b < 0
  · simp only [eX5_enemyBut_56, eX5_enemyBut_57, eX5_enemyBut_60, eX5_enemyBut_61, eX5_enemyBut_62, eX5_enemyBut_63, eX5_enemyBut_66, eX5_enemyBut_67, eX5_enemyBut_70, eX5_enemyBut_72, eX5_enemyBut_75, eX5_enemyBut_76, evb_some, evm_some, evc_some, evc_none, gd, if_true, if_false, eq_self, and_self, and_true, true_and, ne_eq, not_false_eq_true, or_true, true_or, if_pos h3]
  · obtain ⟨e, he⟩ := n2i (show 0 ≤ b by omega)
    subst he
    have hm2 := T5_maliceOf (X := X) (mem := mem) (g := g) (y1 := vS) (y2 := vS) h (show (e : Int) < d.1 0 by omega) hq (show e ≠ q by omega)
    simp only [eX5_enemyBut_56, eX5_enemyBut_57, eX5_enemyBut_60, eX5_enemyBut_61, eX5_enemyBut_62, eX5_enemyBut_63, eX5_enemyBut_66, eX5_enemyBut_67, eX5_enemyBut_70, eX5_enemyBut_72, eX5_enemyBut_75, eX5_enemyBut_76, evb_some, evm_some, evc_some, evc_none, gd, if_true, if_false, eq_self, and_self, and_true, true_and, ne_eq, not_false_eq_true, or_true, true_or, mg, mf0, mf1, mf2, mf3, mf4, mf5, mf6, mf7, mf8, mf9, mf10, mf11, mf12, mf13, mf14, mf15, mf16, mf17, mf18, mf19, mf20, mf21, mf22, mf23, mf24, mf25, mf26, mf27, if_neg h3, hm2, Int.toNat_natCast]
    (repeat' split) <;> rfl
theorem T5_enemyOf (h : DW d) {q : Nat} (hq : (q : Int) < d.1 0) : ev X m_X5_enemyOf 0 [vR 53, vI (q : Int)] [] (mpt mem g d) = some (some (vI (ene d q (-9))), mpt mem g d) := by
  simp only [eX5_enemyOf_0, eX5_enemyOf_1, eX5_enemyOf_2, eX5_enemyOf_4, eX5_enemyOf_7, evb_some, evm_some, evc_some, evc_none, gd, if_true, if_false, eq_self, and_self, and_true, true_and, ne_eq, not_false_eq_true, or_true, true_or, mg, mf0, mf1, mf2, mf3, mf4, mf5, mf6, mf7, mf8, mf9, mf10, mf11, mf12, mf13, mf14, mf15, mf16, mf17, mf18, mf19, mf20, mf21, mf22, mf23, mf24, mf25, mf26, mf27, T5_enemyBut h hq]
theorem T5_isCarrying (hL : DL d) (h8 : d.1 1 ≤ 8) {p : Int} {z : AV} : ev X m_X5_isCarrying 0 [vR 53, vI p, z] [] (mpt mem g d) = some (some (vI (if car d p = true then 1 else 0)), mpt mem g d) := by
  obtain ⟨l1, l2, l3, l4, l5, l6, l7, l8, l9, l10⟩ := hL
  have key : ∀ n k, k + n = (d.1 1).toNat → ev X m_X5_isCarrying 2 [vR 53, vI p, vI (k : Int)] [] (mpt mem g d) = some (some (vI (if carL d p n k = true then 1 else 0)), mpt mem g d) := by
    intro n
    induction n with
    | zero =>
      intro k hk
      have c1 : ¬ (k : Int) < d.1 1 := by omega
      rw [eX5_isCarrying_2]
      simp only [eX5_isCarrying_0, eX5_isCarrying_1, eX5_isCarrying_3, eX5_isCarrying_4, eX5_isCarrying_7, eX5_isCarrying_10, eX5_isCarrying_11, eX5_isCarrying_14, eX5_isCarrying_15, eX5_isCarrying_16, eX5_isCarrying_17, eX5_isCarrying_20, eX5_isCarrying_21, eX5_isCarrying_24, eX5_isCarrying_25, eX5_isCarrying_26, eX5_isCarrying_27, eX5_isCarrying_30, eX5_isCarrying_31a, eX5_isCarrying_31b, eX5_isCarrying_31c, eX5_isCarrying_32, eX5_isCarrying_35, eX5_isCarrying_38, eX5_isCarrying_39a, eX5_isCarrying_39b, eX5_isCarrying_39c, evb_some, evm_some, evc_some, evc_none, gd, if_true, if_false, eq_self, and_self, and_true, true_and, ne_eq, not_false_eq_true, or_true, true_or, mg, mf0, mf1, mf2, mf3, mf4, mf5, mf6, mf7, mf8, mf9, mf10, mf11, mf12, mf13, mf14, mf15, mf16, mf17, mf18, mf19, mf20, mf21, mf22, mf23, mf24, mf25, mf26, mf27, if_neg c1, carL, Bool.false_eq_true]
    | succ n ih =>
      intro k hk
      have c1 : (k : Int) < d.1 1 := by omega
      have k8 : k < 8 := by omega
      rw [eX5_isCarrying_2]
      simp only [eX5_isCarrying_0, eX5_isCarrying_1, eX5_isCarrying_3, eX5_isCarrying_4, eX5_isCarrying_7, eX5_isCarrying_10, eX5_isCarrying_11, eX5_isCarrying_14, eX5_isCarrying_15, eX5_isCarrying_16, eX5_isCarrying_17, eX5_isCarrying_20, eX5_isCarrying_21, eX5_isCarrying_24, eX5_isCarrying_25, eX5_isCarrying_26, eX5_isCarrying_27, eX5_isCarrying_30, eX5_isCarrying_31a, eX5_isCarrying_31b, eX5_isCarrying_31c, eX5_isCarrying_32, eX5_isCarrying_35, eX5_isCarrying_38, eX5_isCarrying_39a, eX5_isCarrying_39b, eX5_isCarrying_39c, evb_some, evm_some, evc_some, evc_none, gd, if_true, if_false, eq_self, and_self, and_true, true_and, ne_eq, not_false_eq_true, or_true, true_or, mg, mf0, mf1, mf2, mf3, mf4, mf5, mf6, mf7, mf8, mf9, mf10, mf11, mf12, mf13, mf14, mf15, mf16, mf17, mf18, mf19, mf20, mf21, mf22, mf23, mf24, mf25, mf26, mf27, ma54, ma55, ma56, ma57, ma58, ma59, ma60, ma61, ma62, ma63, ma64, ma65, ma66, ma67, ma68, ma69, ma70, ma71, l8, l9, k8, if_pos c1, w32_k1 (show k < 2147483647 by omega), carL]
      repeat' (first | exact ih _ (by omega) | rfl | split)
  exact Eq.trans (by simp only [eX5_isCarrying_0, eX5_isCarrying_1]; rfl) (key _ 0 (by omega))
end MO
