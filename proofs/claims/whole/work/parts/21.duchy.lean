/-! THE DUCHY'S METHODS, THE CLASS'S -/
section DU
variable {X : List Int} {mem : AM} {B : Nat} {d : ST}
theorem T0_hasPerson {p : Int} : ev X m_X0_hasPerson 0 [vR B, vI p] [] (dput mem B d) = some (some (vI (if 0 ≤ p ∧ p < d.1 0 then 1 else 0)), dput mem B d) := by
  simp only [eX0_hasPerson_0, eX0_hasPerson_1, eX0_hasPerson_4, eX0_hasPerson_5, eX0_hasPerson_6, eX0_hasPerson_9, eX0_hasPerson_12, eX0_hasPerson_13, eX0_hasPerson_16, eX0_hasPerson_17a, eX0_hasPerson_17b, eX0_hasPerson_17c, evb_some, evm_some, evc_some, evc_none, gd, if_true, if_false, eq_self, and_self, and_true, true_and, ne_eq, not_false_eq_true, or_true, true_or, fd0, fd1, fd2, fd3, fd4, fd5, fd6, fd7, fd8, fd9, fd10, fd11, fd12]
  (repeat' split) <;> first | rfl | omega
theorem T0_hasParcel {p : Int} : ev X m_X0_hasParcel 0 [vR B, vI p] [] (dput mem B d) = some (some (vI (if 0 ≤ p ∧ p < d.1 1 then 1 else 0)), dput mem B d) := by
  simp only [eX0_hasParcel_0, eX0_hasParcel_1, eX0_hasParcel_4, eX0_hasParcel_5, eX0_hasParcel_6, eX0_hasParcel_9, eX0_hasParcel_12, eX0_hasParcel_13, eX0_hasParcel_16, eX0_hasParcel_17a, eX0_hasParcel_17b, eX0_hasParcel_17c, evb_some, evm_some, evc_some, evc_none, gd, if_true, if_false, eq_self, and_self, and_true, true_and, ne_eq, not_false_eq_true, or_true, true_or, fd0, fd1, fd2, fd3, fd4, fd5, fd6, fd7, fd8, fd9, fd10, fd11, fd12]
  (repeat' split) <;> first | rfl | omega
theorem T0_hasPair {p q : Int} : ev X m_X0_hasPair 0 [vR B, vI p, vI q] [] (dput mem B d) = some (some (vI (if 0 ≤ p ∧ p < d.1 0 ∧ 0 ≤ q ∧ q < d.1 0 ∧ p ≠ q then 1 else 0)), dput mem B d) := by
  simp only [eX0_hasPair_0, eX0_hasPair_1, eX0_hasPair_4, eX0_hasPair_5, eX0_hasPair_6, eX0_hasPair_9, eX0_hasPair_12, eX0_hasPair_13, eX0_hasPair_16, eX0_hasPair_17, eX0_hasPair_18, eX0_hasPair_21, eX0_hasPair_24, eX0_hasPair_25, eX0_hasPair_26, eX0_hasPair_29, eX0_hasPair_30, eX0_hasPair_33, eX0_hasPair_34a, eX0_hasPair_34b, eX0_hasPair_34c, evb_some, evm_some, evc_some, evc_none, gd, if_true, if_false, eq_self, and_self, and_true, true_and, ne_eq, not_false_eq_true, or_true, true_or, fd0, fd1, fd2, fd3, fd4, fd5, fd6, fd7, fd8, fd9, fd10, fd11, fd12]
  (repeat' split) <;> first | rfl | omega
theorem T0_hasPersonY {p : Int} (h : 0 ≤ p ∧ p < d.1 0) : ev X m_X0_hasPerson 0 [vR B, vI p] [] (dput mem B d) = some (some (vI 1), dput mem B d) := by rw [T0_hasPerson, if_pos h]
theorem T0_hasPersonN {p : Int} (h : ¬ (0 ≤ p ∧ p < d.1 0)) : ev X m_X0_hasPerson 0 [vR B, vI p] [] (dput mem B d) = some (some (vI 0), dput mem B d) := by rw [T0_hasPerson, if_neg h]
theorem T0_hasParcelY {p : Int} (h : 0 ≤ p ∧ p < d.1 1) : ev X m_X0_hasParcel 0 [vR B, vI p] [] (dput mem B d) = some (some (vI 1), dput mem B d) := by rw [T0_hasParcel, if_pos h]
theorem T0_hasParcelN {p : Int} (h : ¬ (0 ≤ p ∧ p < d.1 1)) : ev X m_X0_hasParcel 0 [vR B, vI p] [] (dput mem B d) = some (some (vI 0), dput mem B d) := by rw [T0_hasParcel, if_neg h]
theorem T0_hasPairY {p q : Int} (h : 0 ≤ p ∧ p < d.1 0 ∧ 0 ≤ q ∧ q < d.1 0 ∧ p ≠ q) : ev X m_X0_hasPair 0 [vR B, vI p, vI q] [] (dput mem B d) = some (some (vI 1), dput mem B d) := by rw [T0_hasPair, if_pos h]
theorem T0_hasPairN {p q : Int} (h : ¬ (0 ≤ p ∧ p < d.1 0 ∧ 0 ≤ q ∧ q < d.1 0 ∧ p ≠ q)) : ev X m_X0_hasPair 0 [vR B, vI p, vI q] [] (dput mem B d) = some (some (vI 0), dput mem B d) := by rw [T0_hasPair, if_neg h]
def miles (k : Int) : Int := if k = 0 then 2 else if k = 1 then 1 else if k = 5 then 4 else 3
theorem T0_milesOf {k : Int} : ev X m_X0_milesOf 0 [vI k] [] mem = some (some (vI (miles k)), mem) := by
  unfold miles
  simp only [eX0_milesOf_0, eX0_milesOf_1, eX0_milesOf_36, eX0_milesOf_37, eX0_milesOf_38, eX0_milesOf_39, eX0_milesOf_40, eX0_milesOf_41, eX0_milesOf_42, eX0_milesOf_43]
  (repeat' split) <;> first | rfl | omega
/-- MALICE of i for j -/
def mal (d : ST) (i j : Nat) : Int :=
  let h := (d.2 5).getD (6 * i + j) 0
  let f := (d.2 2).getD i 0
  let r := if 0 < h then w32 (h + f) else 0
  let k := (d.2 1).getD i 0
  let a := w32 ((d.2 3).getD i 0 - (d.2 3).getD j 0)
  if k = 1 then w32 (h.tdiv 2) else if k = 2 then r else if k = 3 then w32 (2 * r) else if k = 4 then w32 (w32 (h.tdiv 2) + f) else if k = 5 then (if a < 10 then (if -10 < a then w32 (2 * r) else 0) else 0) else h
theorem T0_maliceOf (hL : DL d) (h6 : d.1 0 ≤ 6) {i j : Nat} (hi : (i : Int) < d.1 0) (hj : (j : Int) < d.1 0) (hij : i ≠ j) : ev X m_X0_maliceOf 0 [vR B, vI (i : Int), vI (j : Int), vS, vS, vS, vS] [] (dput mem B d) = some (some (vI (mal d i j)), dput mem B d) := by
  obtain ⟨l1, l2, l3, l4, l5, l6, l7, l8, l9, l10⟩ := hL
  have i6 : i < 6 := by omega
  have j6 : j < 6 := by omega
  have ij : 6 * i + j < 36 := by omega
  have c1 : ¬ (i : Int) < 0 := by omega
  have c2 : ¬ (j : Int) < 0 := by omega
  have c3 : ¬ (i : Int) = (j : Int) := by omega
  simp only [eX0_maliceOf_0, eX0_maliceOf_1, eX0_maliceOf_4, eX0_maliceOf_5, eX0_maliceOf_6, eX0_maliceOf_9, eX0_maliceOf_12, eX0_maliceOf_13, eX0_maliceOf_16, eX0_maliceOf_17, eX0_maliceOf_18, eX0_maliceOf_21, eX0_maliceOf_24, eX0_maliceOf_25, eX0_maliceOf_26, eX0_maliceOf_29, eX0_maliceOf_30, eX0_maliceOf_31, eX0_maliceOf_32, eX0_maliceOf_35, eX0_maliceOf_36, eX0_maliceOf_38, eX0_maliceOf_39, eX0_maliceOf_40, eX0_maliceOf_41, eX0_maliceOf_42, eX0_maliceOf_43, eX0_maliceOf_44, eX0_maliceOf_47, eX0_maliceOf_48, eX0_maliceOf_49, eX0_maliceOf_51, eX0_maliceOf_52, eX0_maliceOf_55, eX0_maliceOf_56, eX0_maliceOf_57, eX0_maliceOf_58, eX0_maliceOf_61, eX0_maliceOf_62, eX0_maliceOf_63, eX0_maliceOf_64, eX0_maliceOf_66, eX0_maliceOf_67, eX0_maliceOf_70, eX0_maliceOf_71, eX0_maliceOf_73, eX0_maliceOf_74, eX0_maliceOf_77, eX0_maliceOf_78, eX0_maliceOf_80, eX0_maliceOf_81, eX0_maliceOf_84, eX0_maliceOf_85, eX0_maliceOf_86, eX0_maliceOf_120, eX0_maliceOf_121, eX0_maliceOf_122, eX0_maliceOf_123, eX0_maliceOf_124, eX0_maliceOf_126, eX0_maliceOf_127, eX0_maliceOf_128, eX0_maliceOf_130, eX0_maliceOf_131, eX0_maliceOf_132, eX0_maliceOf_133, eX0_maliceOf_134, eX0_maliceOf_135, eX0_maliceOf_137, eX0_maliceOf_138, eX0_maliceOf_139, eX0_maliceOf_141, eX0_maliceOf_143, eX0_maliceOf_146, eX0_maliceOf_148, eX0_maliceOf_150, eX0_maliceOf_153, eX0_maliceOf_154, eX0_maliceOf_157, eX0_maliceOf_158, eX0_maliceOf_160, eX0_maliceOf_161, eX0_maliceOf_162, eX0_maliceOf_163, evb_some, evm_some, evc_some, evc_none, gd, if_true, if_false, eq_self, and_self, and_true, true_and, ne_eq, not_false_eq_true, or_true, true_or, fd0, fd1, fd2, fd3, fd4, fd5, fd6, fd7, fd8, fd9, fd10, fd11, fd12, ad1, ad2, ad3, ad4, ad5, ad6, ad7, ad8, ad9, ad10, l1, l2, l3, l5, i6, j6, ij, w32_idx i6 j6, if_neg c1, if_neg c2, if_neg c3, if_pos hi, if_pos hj, if_neg z2]
  unfold mal
  dsimp only
  generalize (d.2 5).getD (6 * i + j) 0 = h
  generalize (d.2 2).getD i 0 = f
  generalize (d.2 1).getD i 0 = k
  generalize w32 ((d.2 3).getD i 0 - (d.2 3).getD j 0) = a
  (repeat' split) <;> first | rfl | omega
theorem T0_maliceSelf (h6 : d.1 0 ≤ 6) {i : Nat} (hi : (i : Int) < d.1 0) : ev X m_X0_maliceOf 0 [vR B, vI (i : Int), vI (i : Int), vS, vS, vS, vS] [] (dput mem B d) = some (some (vI 0), dput mem B d) := by
  have c1 : ¬ (i : Int) < 0 := by omega
  simp only [eX0_maliceOf_0, eX0_maliceOf_1, eX0_maliceOf_4, eX0_maliceOf_5, eX0_maliceOf_6, eX0_maliceOf_9, eX0_maliceOf_12, eX0_maliceOf_13, eX0_maliceOf_16, eX0_maliceOf_17, eX0_maliceOf_18, eX0_maliceOf_21, eX0_maliceOf_24, eX0_maliceOf_25, eX0_maliceOf_26, eX0_maliceOf_29, eX0_maliceOf_30, eX0_maliceOf_31, eX0_maliceOf_32, eX0_maliceOf_35, eX0_maliceOf_36, eX0_maliceOf_38, eX0_maliceOf_39, eX0_maliceOf_40, eX0_maliceOf_41, eX0_maliceOf_42, eX0_maliceOf_43, eX0_maliceOf_44, eX0_maliceOf_47, eX0_maliceOf_48, eX0_maliceOf_49, eX0_maliceOf_51, eX0_maliceOf_52, eX0_maliceOf_55, eX0_maliceOf_56, eX0_maliceOf_57, eX0_maliceOf_58, evb_some, evm_some, evc_some, evc_none, gd, if_true, if_false, eq_self, and_self, and_true, true_and, ne_eq, not_false_eq_true, or_true, true_or, fd0, fd1, fd2, fd3, fd4, fd5, fd6, fd7, fd8, fd9, fd10, fd11, fd12, if_neg c1, if_pos hi]
/-- ENEMY (but one) -/
def enF (d : ST) (q : Nat) (but : Int) (k : Nat) (s : Int × Int) : Int × Int := if (k : Int) = q then s else if (k : Int) = but then s else if s.2 < mal d k q then ((k : Int), mal d k q) else s
def ene (d : ST) (q : Nat) (but : Int) : Int := (itr (enF d q but) (d.1 0).toNat 0 (-9, 4)).1
theorem T0_enemyOf (hL : DL d) (h6 : d.1 0 ≤ 6) {q : Nat} {but : Int} (hq : (q : Int) < d.1 0) : ev X m_X0_enemyOf 0 [vR B, vI (q : Int), vI but, vS, vS, vS, vS] [] (dput mem B d) = some (some (vI (ene d q but)), dput mem B d) := by
  obtain ⟨N, hN⟩ := n2i (show 0 ≤ d.1 0 by omega)
  have key : ∀ n k e b (z : AV), k + n = N → ev X m_X0_enemyOf 9 [vR B, vI (q : Int), vI but, vI e, vI b, vI (k : Int), z] [] (dput mem B d) = some (some (vI (itr (enF d q but) n k (e, b)).1), dput mem B d) := by
    intro n
    induction n with
    | zero =>
      intro k e b z hk
      have c1 : ¬ (k : Int) < d.1 0 := by omega
      rw [eX0_enemyOf_9]
      simp only [eX0_enemyOf_0, eX0_enemyOf_2, eX0_enemyOf_3, eX0_enemyOf_4, eX0_enemyOf_6, eX0_enemyOf_7, eX0_enemyOf_11, eX0_enemyOf_12, eX0_enemyOf_15, eX0_enemyOf_18, eX0_enemyOf_20, eX0_enemyOf_21, eX0_enemyOf_24, eX0_enemyOf_26, eX0_enemyOf_27, eX0_enemyOf_30, eX0_enemyOf_33, eX0_enemyOf_34, eX0_enemyOf_36, eX0_enemyOf_37, eX0_enemyOf_40, eX0_enemyOf_42, eX0_enemyOf_44, eX0_enemyOf_46, eX0_enemyOf_49, eX0_enemyOf_51, eX0_enemyOf_53, eX0_enemyOf_55, eX0_enemyOf_56, eX0_enemyOf_59, eX0_enemyOf_62, eX0_enemyOf_63, evb_some, evm_some, evc_some, evc_none, gd, if_true, if_false, eq_self, and_self, and_true, true_and, ne_eq, not_false_eq_true, or_true, true_or, fd0, fd1, fd2, fd3, fd4, fd5, fd6, fd7, fd8, fd9, fd10, fd11, fd12, if_neg c1, itr]
    | succ n ih =>
      intro k e b z hk
      have c1 : (k : Int) < d.1 0 := by omega
      rw [eX0_enemyOf_9]
      by_cases h1 : (k : Int) = (q : Int)
      · simp only [eX0_enemyOf_0, eX0_enemyOf_2, eX0_enemyOf_3, eX0_enemyOf_4, eX0_enemyOf_6, eX0_enemyOf_7, eX0_enemyOf_11, eX0_enemyOf_12, eX0_enemyOf_15, eX0_enemyOf_18, eX0_enemyOf_20, eX0_enemyOf_21, eX0_enemyOf_24, eX0_enemyOf_26, eX0_enemyOf_27, eX0_enemyOf_30, eX0_enemyOf_33, eX0_enemyOf_34, eX0_enemyOf_36, eX0_enemyOf_37, eX0_enemyOf_40, eX0_enemyOf_42, eX0_enemyOf_44, eX0_enemyOf_46, eX0_enemyOf_49, eX0_enemyOf_51, eX0_enemyOf_53, eX0_enemyOf_55, eX0_enemyOf_56, eX0_enemyOf_59, eX0_enemyOf_62, eX0_enemyOf_63, evb_some, evm_some, evc_some, evc_none, gd, if_true, if_false, eq_self, and_self, and_true, true_and, ne_eq, not_false_eq_true, or_true, true_or, fd0, fd1, fd2, fd3, fd4, fd5, fd6, fd7, fd8, fd9, fd10, fd11, fd12, if_pos c1, w32_k1 (show k < 2147483647 by omega), itr, enF, if_pos h1]
        exact ih _ _ _ _ (by omega)
      have hm := T0_maliceOf (X := X) (mem := mem) (B := B) hL h6 c1 hq (show k ≠ q by omega)
      simp only [eX0_enemyOf_0, eX0_enemyOf_2, eX0_enemyOf_3, eX0_enemyOf_4, eX0_enemyOf_6, eX0_enemyOf_7, eX0_enemyOf_11, eX0_enemyOf_12, eX0_enemyOf_15, eX0_enemyOf_18, eX0_enemyOf_20, eX0_enemyOf_21, eX0_enemyOf_24, eX0_enemyOf_26, eX0_enemyOf_27, eX0_enemyOf_30, eX0_enemyOf_33, eX0_enemyOf_34, eX0_enemyOf_36, eX0_enemyOf_37, eX0_enemyOf_40, eX0_enemyOf_42, eX0_enemyOf_44, eX0_enemyOf_46, eX0_enemyOf_49, eX0_enemyOf_51, eX0_enemyOf_53, eX0_enemyOf_55, eX0_enemyOf_56, eX0_enemyOf_59, eX0_enemyOf_62, eX0_enemyOf_63, evb_some, evm_some, evc_some, evc_none, gd, if_true, if_false, eq_self, and_self, and_true, true_and, ne_eq, not_false_eq_true, or_true, true_or, fd0, fd1, fd2, fd3, fd4, fd5, fd6, fd7, fd8, fd9, fd10, fd11, fd12, if_pos c1, w32_k1 (show k < 2147483647 by omega), itr, enF, if_neg h1, hm]
      repeat' (first | exact ih _ _ _ _ (by omega) | split)
  rw [ene, show (d.1 0).toNat = N by omega]
  exact Eq.trans (by simp only [eX0_enemyOf_0, eX0_enemyOf_2, eX0_enemyOf_3, eX0_enemyOf_4, eX0_enemyOf_6, eX0_enemyOf_7]; rfl) (key N 0 _ _ vS (by omega))
/-- whether one CARRIES -/
def carL (d : ST) (p : Int) : Nat → Nat → Bool
  | 0, _ => false
  | n + 1, k => if (d.2 8).getD k 0 = 1 then (if (d.2 9).getD k 0 = p then true else carL d p n (k + 1)) else carL d p n (k + 1)
def car (d : ST) (p : Int) : Bool := carL d p (d.1 1).toNat 0
theorem T0_carries (hL : DL d) (h8 : d.1 1 ≤ 8) {p : Int} : ev X m_X0_carries 0 [vR B, vI p, vS] [] (dput mem B d) = some (some (vI (if car d p = true then 1 else 0)), dput mem B d) := by
  obtain ⟨l1, l2, l3, l4, l5, l6, l7, l8, l9, l10⟩ := hL
  have key : ∀ n k, k + n = (d.1 1).toNat → ev X m_X0_carries 2 [vR B, vI p, vI (k : Int)] [] (dput mem B d) = some (some (vI (if carL d p n k = true then 1 else 0)), dput mem B d) := by
    intro n
    induction n with
    | zero =>
      intro k hk
      have c1 : ¬ (k : Int) < d.1 1 := by omega
      rw [eX0_carries_2]
      simp only [eX0_carries_0, eX0_carries_1, eX0_carries_3, eX0_carries_4, eX0_carries_7, eX0_carries_10, eX0_carries_11, eX0_carries_14, eX0_carries_15, eX0_carries_16, eX0_carries_17, eX0_carries_20, eX0_carries_21, eX0_carries_24, eX0_carries_25, eX0_carries_26, eX0_carries_27, eX0_carries_30, eX0_carries_31a, eX0_carries_31b, eX0_carries_31c, eX0_carries_32, eX0_carries_35, eX0_carries_38, eX0_carries_39a, eX0_carries_39b, eX0_carries_39c, evb_some, evm_some, evc_some, evc_none, gd, if_true, if_false, eq_self, and_self, and_true, true_and, ne_eq, not_false_eq_true, or_true, true_or, fd0, fd1, fd2, fd3, fd4, fd5, fd6, fd7, fd8, fd9, fd10, fd11, fd12, if_neg c1, carL, Bool.false_eq_true]
    | succ n ih =>
      intro k hk
      have c1 : (k : Int) < d.1 1 := by omega
      have k8 : k < 8 := by omega
      rw [eX0_carries_2]
      simp only [eX0_carries_0, eX0_carries_1, eX0_carries_3, eX0_carries_4, eX0_carries_7, eX0_carries_10, eX0_carries_11, eX0_carries_14, eX0_carries_15, eX0_carries_16, eX0_carries_17, eX0_carries_20, eX0_carries_21, eX0_carries_24, eX0_carries_25, eX0_carries_26, eX0_carries_27, eX0_carries_30, eX0_carries_31a, eX0_carries_31b, eX0_carries_31c, eX0_carries_32, eX0_carries_35, eX0_carries_38, eX0_carries_39a, eX0_carries_39b, eX0_carries_39c, evb_some, evm_some, evc_some, evc_none, gd, if_true, if_false, eq_self, and_self, and_true, true_and, ne_eq, not_false_eq_true, or_true, true_or, fd0, fd1, fd2, fd3, fd4, fd5, fd6, fd7, fd8, fd9, fd10, fd11, fd12, ad1, ad2, ad3, ad4, ad5, ad6, ad7, ad8, ad9, ad10, l8, l9, k8, if_pos c1, w32_k1 (show k < 2147483647 by omega), carL]
      repeat' (first | exact ih _ (by omega) | rfl | split)
  exact Eq.trans (by simp only [eX0_carries_0, eX0_carries_1]; rfl) (key _ 0 (by omega))
/-- BROUGHT ones -/
def brF (d : ST) (k : Nat) (s : Nat) : Nat := if (d.2 8).getD k 0 = 2 then s + 1 else s
def bro (d : ST) : Nat := itr (brF d) (d.1 1).toNat 0 0
theorem T0_brought (hL : DL d) (h8 : d.1 1 ≤ 8) : ev X m_X0_brought 0 [vR B, vS, vS] [] (dput mem B d) = some (some (vI ((bro d : Nat) : Int)), dput mem B d) := by
  obtain ⟨l1, l2, l3, l4, l5, l6, l7, l8, l9, l10⟩ := hL
  have key : ∀ n k s, k + n = (d.1 1).toNat → s ≤ k → ev X m_X0_brought 4 [vR B, vI (s : Int), vI (k : Int)] [] (dput mem B d) = some (some (vI ((itr (brF d) n k s : Nat) : Int)), dput mem B d) := by
    intro n
    induction n with
    | zero =>
      intro k s hk hs
      have c1 : ¬ (k : Int) < d.1 1 := by omega
      rw [eX0_brought_4]
      simp only [eX0_brought_0, eX0_brought_1, eX0_brought_2, eX0_brought_3, eX0_brought_5, eX0_brought_6, eX0_brought_9, eX0_brought_12, eX0_brought_13, eX0_brought_16, eX0_brought_17, eX0_brought_18, eX0_brought_19, eX0_brought_22, eX0_brought_25, eX0_brought_28, eX0_brought_31, eX0_brought_32, evb_some, evm_some, evc_some, evc_none, gd, if_true, if_false, eq_self, and_self, and_true, true_and, ne_eq, not_false_eq_true, or_true, true_or, fd0, fd1, fd2, fd3, fd4, fd5, fd6, fd7, fd8, fd9, fd10, fd11, fd12, if_neg c1, itr]
    | succ n ih =>
      intro k s hk hs
      have c1 : (k : Int) < d.1 1 := by omega
      have k8 : k < 8 := by omega
      rw [eX0_brought_4]
      simp only [eX0_brought_0, eX0_brought_1, eX0_brought_2, eX0_brought_3, eX0_brought_5, eX0_brought_6, eX0_brought_9, eX0_brought_12, eX0_brought_13, eX0_brought_16, eX0_brought_17, eX0_brought_18, eX0_brought_19, eX0_brought_22, eX0_brought_25, eX0_brought_28, eX0_brought_31, eX0_brought_32, evb_some, evm_some, evc_some, evc_none, gd, if_true, if_false, eq_self, and_self, and_true, true_and, ne_eq, not_false_eq_true, or_true, true_or, fd0, fd1, fd2, fd3, fd4, fd5, fd6, fd7, fd8, fd9, fd10, fd11, fd12, ad1, ad2, ad3, ad4, ad5, ad6, ad7, ad8, ad9, ad10, l8, k8, if_pos c1, w32_k1 (show k < 2147483647 by omega), w32_k1 (show s < 2147483647 by omega), itr, brF]
      repeat' (first | exact ih _ _ (by omega) (by omega) | split)
  exact Eq.trans (by simp only [eX0_brought_0, eX0_brought_1, eX0_brought_2, eX0_brought_3]; rfl) (key _ 0 0 (by omega) (by omega))
/-- PARCELS in a state, as bits -/
def bitF (d : ST) (x : Int) (k : Nat) (s : Int) : Int := if (d.2 8).getD k 0 = x then or32 s (shl32 1 (k : Int)) else s
def thS (d : ST) (x : Int) : Int := itr (bitF d x) (d.1 1).toNat 0 0
theorem T0_parcelsThat (hL : DL d) (h8 : d.1 1 ≤ 8) {x : Int} : ev X m_X0_parcelsThat 0 [vR B, vI x, vS, vS] [] (dput mem B d) = some (some (vI (thS d x)), dput mem B d) := by
  obtain ⟨l1, l2, l3, l4, l5, l6, l7, l8, l9, l10⟩ := hL
  have key : ∀ n k s, k + n = (d.1 1).toNat → ev X m_X0_parcelsThat 4 [vR B, vI x, vI s, vI (k : Int)] [] (dput mem B d) = some (some (vI (itr (bitF d x) n k s)), dput mem B d) := by
    intro n
    induction n with
    | zero =>
      intro k s hk
      have c1 : ¬ (k : Int) < d.1 1 := by omega
      rw [eX0_parcelsThat_4]
      simp only [eX0_parcelsThat_0, eX0_parcelsThat_1, eX0_parcelsThat_2, eX0_parcelsThat_3, eX0_parcelsThat_5, eX0_parcelsThat_6, eX0_parcelsThat_9, eX0_parcelsThat_12, eX0_parcelsThat_13, eX0_parcelsThat_16, eX0_parcelsThat_17, eX0_parcelsThat_18, eX0_parcelsThat_19, eX0_parcelsThat_22, eX0_parcelsThat_23, eX0_parcelsThat_24, eX0_parcelsThat_25, eX0_parcelsThat_26, eX0_parcelsThat_27, eX0_parcelsThat_28, eX0_parcelsThat_31, eX0_parcelsThat_34, eX0_parcelsThat_35, evb_some, evm_some, evc_some, evc_none, gd, if_true, if_false, eq_self, and_self, and_true, true_and, ne_eq, not_false_eq_true, or_true, true_or, fd0, fd1, fd2, fd3, fd4, fd5, fd6, fd7, fd8, fd9, fd10, fd11, fd12, if_neg c1, itr]
    | succ n ih =>
      intro k s hk
      have c1 : (k : Int) < d.1 1 := by omega
      have k8 : k < 8 := by omega
      rw [eX0_parcelsThat_4]
      simp only [eX0_parcelsThat_0, eX0_parcelsThat_1, eX0_parcelsThat_2, eX0_parcelsThat_3, eX0_parcelsThat_5, eX0_parcelsThat_6, eX0_parcelsThat_9, eX0_parcelsThat_12, eX0_parcelsThat_13, eX0_parcelsThat_16, eX0_parcelsThat_17, eX0_parcelsThat_18, eX0_parcelsThat_19, eX0_parcelsThat_22, eX0_parcelsThat_23, eX0_parcelsThat_24, eX0_parcelsThat_25, eX0_parcelsThat_26, eX0_parcelsThat_27, eX0_parcelsThat_28, eX0_parcelsThat_31, eX0_parcelsThat_34, eX0_parcelsThat_35, evb_some, evm_some, evc_some, evc_none, gd, if_true, if_false, eq_self, and_self, and_true, true_and, ne_eq, not_false_eq_true, or_true, true_or, fd0, fd1, fd2, fd3, fd4, fd5, fd6, fd7, fd8, fd9, fd10, fd11, fd12, ad1, ad2, ad3, ad4, ad5, ad6, ad7, ad8, ad9, ad10, l8, k8, if_pos c1, w32_k1 (show k < 2147483647 by omega), itr, bitF]
      repeat' (first | exact ih _ _ (by omega) | split)
  exact Eq.trans (by simp only [eX0_parcelsThat_0, eX0_parcelsThat_1, eX0_parcelsThat_2, eX0_parcelsThat_3]; rfl) (key _ 0 0 (by omega))
/-- all HATES together -/
def sumH (d : ST) : Int := itr (fun k s => w32 (s + (d.2 5).getD k 0)) 36 0 0
theorem T0_hatesTogether (hL : DL d) : ev X m_X0_hatesTogether 0 [vR B, vS, vS] [] (dput mem B d) = some (some (vI (sumH d)), dput mem B d) := by
  obtain ⟨l1, l2, l3, l4, l5, l6, l7, l8, l9, l10⟩ := hL
  have w36 : w32 ((36 : Nat) : Int) = 36 := by decide
  have key : ∀ (n k : Nat) (s : Int), k + n = 36 → ev X m_X0_hatesTogether 4 [vR B, vI s, vI (k : Int)] [] (dput mem B d) = some (some (vI (itr (fun k s => w32 (s + (d.2 5).getD k 0)) n k s)), dput mem B d) := by
    intro n
    induction n with
    | zero =>
      intro k s hk
      have c1 : ¬ (k : Int) < 36 := by omega
      rw [eX0_hatesTogether_4]
      simp only [eX0_hatesTogether_0, eX0_hatesTogether_1, eX0_hatesTogether_2, eX0_hatesTogether_3, eX0_hatesTogether_5, eX0_hatesTogether_6, eX0_hatesTogether_9, eX0_hatesTogether_10, eX0_hatesTogether_13, eX0_hatesTogether_14, eX0_hatesTogether_15, eX0_hatesTogether_18, eX0_hatesTogether_19, eX0_hatesTogether_20, eX0_hatesTogether_21, eX0_hatesTogether_22, eX0_hatesTogether_25, eX0_hatesTogether_28, eX0_hatesTogether_29, evb_some, evm_some, evc_some, evc_none, gd, if_true, if_false, eq_self, and_self, and_true, true_and, ne_eq, not_false_eq_true, or_true, true_or, fd0, fd1, fd2, fd3, fd4, fd5, fd6, fd7, fd8, fd9, fd10, fd11, fd12, ld1, ld2, ld3, ld4, ld5, ld6, ld7, ld8, ld9, ld10, l5, w36, if_neg c1, itr]
    | succ n ih =>
      intro k s hk
      have c1 : (k : Int) < 36 := by omega
      have k8 : k < 36 := by omega
      rw [eX0_hatesTogether_4]
      simp only [eX0_hatesTogether_0, eX0_hatesTogether_1, eX0_hatesTogether_2, eX0_hatesTogether_3, eX0_hatesTogether_5, eX0_hatesTogether_6, eX0_hatesTogether_9, eX0_hatesTogether_10, eX0_hatesTogether_13, eX0_hatesTogether_14, eX0_hatesTogether_15, eX0_hatesTogether_18, eX0_hatesTogether_19, eX0_hatesTogether_20, eX0_hatesTogether_21, eX0_hatesTogether_22, eX0_hatesTogether_25, eX0_hatesTogether_28, eX0_hatesTogether_29, evb_some, evm_some, evc_some, evc_none, gd, if_true, if_false, eq_self, and_self, and_true, true_and, ne_eq, not_false_eq_true, or_true, true_or, fd0, fd1, fd2, fd3, fd4, fd5, fd6, fd7, fd8, fd9, fd10, fd11, fd12, ad1, ad2, ad3, ad4, ad5, ad6, ad7, ad8, ad9, ad10, ld1, ld2, ld3, ld4, ld5, ld6, ld7, ld8, ld9, ld10, l5, w36, k8, if_pos c1, w32_k1 (show k < 2147483647 by omega), itr]
      exact ih _ _ (by omega)
  exact Eq.trans (by simp only [eX0_hatesTogether_0, eX0_hatesTogether_1, eX0_hatesTogether_2, eX0_hatesTogether_3]; rfl) (key _ 0 0 (by omega))
def mfa (d : ST) (q : Nat) : Int := itr (fun k s => w32 (s + (if k = q then 0 else mal d k q))) (d.1 0).toNat 0 0
theorem T0_maliceOfAll (hL : DL d) (h6 : d.1 0 ≤ 6) {q : Nat} (hq : (q : Int) < d.1 0) : ev X m_X0_maliceOfAll 0 [vR B, vI (q : Int), vS, vS] [] (dput mem B d) = some (some (vI (mfa d q)), dput mem B d) := by
  have key : ∀ (n k : Nat) (s : Int), k + n = (d.1 0).toNat → ev X m_X0_maliceOfAll 4 [vR B, vI (q : Int), vI s, vI (k : Int)] [] (dput mem B d) = some (some (vI (itr (fun k s => w32 (s + (if k = q then 0 else mal d k q))) n k s)), dput mem B d) := by
    intro n
    induction n with
    | zero =>
      intro k s hk
      have c1 : ¬ (k : Int) < d.1 0 := by omega
      rw [eX0_maliceOfAll_4]
      simp only [eX0_maliceOfAll_0, eX0_maliceOfAll_1, eX0_maliceOfAll_2, eX0_maliceOfAll_3, eX0_maliceOfAll_5, eX0_maliceOfAll_6, eX0_maliceOfAll_9, eX0_maliceOfAll_12, eX0_maliceOfAll_13, eX0_maliceOfAll_14, eX0_maliceOfAll_15, eX0_maliceOfAll_16, eX0_maliceOfAll_19, eX0_maliceOfAll_20, eX0_maliceOfAll_21, eX0_maliceOfAll_24, eX0_maliceOfAll_27, eX0_maliceOfAll_28, evb_some, evm_some, evc_some, evc_none, gd, if_true, if_false, eq_self, and_self, and_true, true_and, ne_eq, not_false_eq_true, or_true, true_or, fd0, fd1, fd2, fd3, fd4, fd5, fd6, fd7, fd8, fd9, fd10, fd11, fd12, if_neg c1, itr]
    | succ n ih =>
      intro k s hk
      have c1 : (k : Int) < d.1 0 := by omega
      rw [eX0_maliceOfAll_4]
      by_cases h1 : k = q
      · subst h1
        have hm := T0_maliceSelf (X := X) (mem := mem) (B := B) h6 hq
        simp only [eX0_maliceOfAll_0, eX0_maliceOfAll_1, eX0_maliceOfAll_2, eX0_maliceOfAll_3, eX0_maliceOfAll_5, eX0_maliceOfAll_6, eX0_maliceOfAll_9, eX0_maliceOfAll_12, eX0_maliceOfAll_13, eX0_maliceOfAll_14, eX0_maliceOfAll_15, eX0_maliceOfAll_16, eX0_maliceOfAll_19, eX0_maliceOfAll_20, eX0_maliceOfAll_21, eX0_maliceOfAll_24, eX0_maliceOfAll_27, eX0_maliceOfAll_28, evb_some, evm_some, evc_some, evc_none, gd, if_true, if_false, eq_self, and_self, and_true, true_and, ne_eq, not_false_eq_true, or_true, true_or, fd0, fd1, fd2, fd3, fd4, fd5, fd6, fd7, fd8, fd9, fd10, fd11, fd12, if_pos c1, w32_k1 (show k < 2147483647 by omega), itr, hm]
        exact ih _ _ (by omega)
      · have hm := T0_maliceOf (X := X) (mem := mem) (B := B) hL h6 c1 hq h1
        simp only [eX0_maliceOfAll_0, eX0_maliceOfAll_1, eX0_maliceOfAll_2, eX0_maliceOfAll_3, eX0_maliceOfAll_5, eX0_maliceOfAll_6, eX0_maliceOfAll_9, eX0_maliceOfAll_12, eX0_maliceOfAll_13, eX0_maliceOfAll_14, eX0_maliceOfAll_15, eX0_maliceOfAll_16, eX0_maliceOfAll_19, eX0_maliceOfAll_20, eX0_maliceOfAll_21, eX0_maliceOfAll_24, eX0_maliceOfAll_27, eX0_maliceOfAll_28, evb_some, evm_some, evc_some, evc_none, gd, if_true, if_false, eq_self, and_self, and_true, true_and, ne_eq, not_false_eq_true, or_true, true_or, fd0, fd1, fd2, fd3, fd4, fd5, fd6, fd7, fd8, fd9, fd10, fd11, fd12, if_pos c1, w32_k1 (show k < 2147483647 by omega), itr, if_neg h1, hm]
        exact ih _ _ (by omega)
  exact Eq.trans (by simp only [eX0_maliceOfAll_0, eX0_maliceOfAll_1, eX0_maliceOfAll_2, eX0_maliceOfAll_3]; rfl) (key _ 0 0 (by omega))
/-- of how many one is the ENEMY -/
def hmF (d : ST) (p : Int) (k : Nat) (s : Nat) : Nat := if ene d k (-9) = p then s + 1 else s
def hmy (d : ST) (p : Int) : Nat := itr (hmF d p) (d.1 0).toNat 0 0
theorem T0_enemyOfHowMany (hL : DL d) (h6 : d.1 0 ≤ 6) {p : Int} : ev X m_X0_enemyOfHowMany 0 [vR B, vI p, vS, vS] [] (dput mem B d) = some (some (vI ((hmy d p : Nat) : Int)), dput mem B d) := by
  have key : ∀ n k s, k + n = (d.1 0).toNat → s ≤ k → ev X m_X0_enemyOfHowMany 4 [vR B, vI p, vI (s : Int), vI (k : Int)] [] (dput mem B d) = some (some (vI ((itr (hmF d p) n k s : Nat) : Int)), dput mem B d) := by
    intro n
    induction n with
    | zero =>
      intro k s hk hs
      have c1 : ¬ (k : Int) < d.1 0 := by omega
      rw [eX0_enemyOfHowMany_4]
      simp only [eX0_enemyOfHowMany_0, eX0_enemyOfHowMany_1, eX0_enemyOfHowMany_2, eX0_enemyOfHowMany_3, eX0_enemyOfHowMany_5, eX0_enemyOfHowMany_6, eX0_enemyOfHowMany_9, eX0_enemyOfHowMany_12, eX0_enemyOfHowMany_13, eX0_enemyOfHowMany_14, eX0_enemyOfHowMany_16, eX0_enemyOfHowMany_19, eX0_enemyOfHowMany_20, eX0_enemyOfHowMany_23, eX0_enemyOfHowMany_26, eX0_enemyOfHowMany_29, eX0_enemyOfHowMany_32, eX0_enemyOfHowMany_33, evb_some, evm_some, evc_some, evc_none, gd, if_true, if_false, eq_self, and_self, and_true, true_and, ne_eq, not_false_eq_true, or_true, true_or, fd0, fd1, fd2, fd3, fd4, fd5, fd6, fd7, fd8, fd9, fd10, fd11, fd12, if_neg c1, itr]
    | succ n ih =>
      intro k s hk hs
      have c1 : (k : Int) < d.1 0 := by omega
      have he := T0_enemyOf (X := X) (mem := mem) (B := B) (but := -9) hL h6 c1
      rw [eX0_enemyOfHowMany_4]
      simp only [eX0_enemyOfHowMany_0, eX0_enemyOfHowMany_1, eX0_enemyOfHowMany_2, eX0_enemyOfHowMany_3, eX0_enemyOfHowMany_5, eX0_enemyOfHowMany_6, eX0_enemyOfHowMany_9, eX0_enemyOfHowMany_12, eX0_enemyOfHowMany_13, eX0_enemyOfHowMany_14, eX0_enemyOfHowMany_16, eX0_enemyOfHowMany_19, eX0_enemyOfHowMany_20, eX0_enemyOfHowMany_23, eX0_enemyOfHowMany_26, eX0_enemyOfHowMany_29, eX0_enemyOfHowMany_32, eX0_enemyOfHowMany_33, evb_some, evm_some, evc_some, evc_none, gd, if_true, if_false, eq_self, and_self, and_true, true_and, ne_eq, not_false_eq_true, or_true, true_or, fd0, fd1, fd2, fd3, fd4, fd5, fd6, fd7, fd8, fd9, fd10, fd11, fd12, he, if_pos c1, w32_k1 (show k < 2147483647 by omega), w32_k1 (show s < 2147483647 by omega), itr, hmF]
      repeat' (first | exact ih _ _ (by omega) (by omega) | split)
  exact Eq.trans (by simp only [eX0_enemyOfHowMany_0, eX0_enemyOfHowMany_1, eX0_enemyOfHowMany_2, eX0_enemyOfHowMany_3]; rfl) (key _ 0 0 (by omega) (by omega))
theorem T0_stateOf (hL : DL d) {c : Nat} (hc : (c : Int) < d.1 1) (h8 : d.1 1 ≤ 8) : ev X m_X0_stateOf 0 [vR B, vI (c : Int)] [] (dput mem B d) = some (some (vI ((d.2 8).getD c 0)), dput mem B d) := by
  obtain ⟨l1, l2, l3, l4, l5, l6, l7, l8, l9, l10⟩ := hL
  have c8 : c < 8 := by omega
  simp only [eX0_stateOf_0, eX0_stateOf_1, eX0_stateOf_2, eX0_stateOf_5, eX0_stateOf_8, eX0_stateOf_9, eX0_stateOf_12, eX0_stateOf_13, eX0_stateOf_14, eX0_stateOf_17, eX0_stateOf_18, evb_some, evm_some, evc_some, evc_none, gd, if_true, if_false, eq_self, and_self, and_true, true_and, ne_eq, not_false_eq_true, or_true, true_or, fd0, fd1, fd2, fd3, fd4, fd5, fd6, fd7, fd8, fd9, fd10, fd11, fd12, ad1, ad2, ad3, ad4, ad5, ad6, ad7, ad8, ad9, ad10, T0_hasParcel, l8, c8, if_pos (show 0 ≤ (c : Int) ∧ (c : Int) < d.1 1 from ⟨by omega, hc⟩), show ¬ (1 : Int) = 0 by decide]
theorem T0_receiverOf (hL : DL d) {c : Nat} (hc : (c : Int) < d.1 1) (h8 : d.1 1 ≤ 8) : ev X m_X0_receiverOf 0 [vR B, vI (c : Int)] [] (dput mem B d) = some (some (vI ((d.2 6).getD c 0)), dput mem B d) := by
  obtain ⟨l1, l2, l3, l4, l5, l6, l7, l8, l9, l10⟩ := hL
  have c8 : c < 8 := by omega
  simp only [eX0_receiverOf_0, eX0_receiverOf_1, eX0_receiverOf_2, eX0_receiverOf_5, eX0_receiverOf_8, eX0_receiverOf_9, eX0_receiverOf_12, eX0_receiverOf_13, eX0_receiverOf_14, eX0_receiverOf_17, eX0_receiverOf_19, evb_some, evm_some, evc_some, evc_none, gd, if_true, if_false, eq_self, and_self, and_true, true_and, ne_eq, not_false_eq_true, or_true, true_or, fd0, fd1, fd2, fd3, fd4, fd5, fd6, fd7, fd8, fd9, fd10, fd11, fd12, ad1, ad2, ad3, ad4, ad5, ad6, ad7, ad8, ad9, ad10, T0_hasParcel, l6, c8, if_pos (show 0 ≤ (c : Int) ∧ (c : Int) < d.1 1 from ⟨by omega, hc⟩), show ¬ (1 : Int) = 0 by decide]
theorem T0_carrierOf (hL : DL d) {c : Nat} (hc : (c : Int) < d.1 1) (h8 : d.1 1 ≤ 8) : ev X m_X0_carrierOf 0 [vR B, vI (c : Int)] [] (dput mem B d) = some (some (vI ((d.2 9).getD c 0)), dput mem B d) := by
  obtain ⟨l1, l2, l3, l4, l5, l6, l7, l8, l9, l10⟩ := hL
  have c8 : c < 8 := by omega
  simp only [eX0_carrierOf_0, eX0_carrierOf_1, eX0_carrierOf_2, eX0_carrierOf_5, eX0_carrierOf_8, eX0_carrierOf_9, eX0_carrierOf_12, eX0_carrierOf_13, eX0_carrierOf_14, eX0_carrierOf_17, eX0_carrierOf_19, evb_some, evm_some, evc_some, evc_none, gd, if_true, if_false, eq_self, and_self, and_true, true_and, ne_eq, not_false_eq_true, or_true, true_or, fd0, fd1, fd2, fd3, fd4, fd5, fd6, fd7, fd8, fd9, fd10, fd11, fd12, ad1, ad2, ad3, ad4, ad5, ad6, ad7, ad8, ad9, ad10, T0_hasParcel, l9, c8, if_pos (show 0 ≤ (c : Int) ∧ (c : Int) < d.1 1 from ⟨by omega, hc⟩), show ¬ (1 : Int) = 0 by decide]
end DU
