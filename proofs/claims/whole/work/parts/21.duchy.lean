/-! THE DUCHY'S METHODS, THE CLASS'S -/
section DU
variable {X : List Int} {mem : AM} {B : Nat} {d : ST}
theorem T0_hasPerson {p : Int} : ev X m_X0_hasPerson 0 [vR B, vI p] [] (dput mem B d) = some (some (vI (if 0 ≤ p ∧ p < d.1 0 then 1 else 0)), dput mem B d) := by
  simp only [eX0_hasPerson_0, eX0_hasPerson_1, eX0_hasPerson_4, eX0_hasPerson_5, eX0_hasPerson_6, eX0_hasPerson_9, eX0_hasPerson_12, eX0_hasPerson_13, eX0_hasPerson_16, eX0_hasPerson_17a, eX0_hasPerson_17b, eX0_hasPerson_17c, evb_some, evm_some, evc_some, evc_none, gd, if_true, if_false, eq_self, fd0, fd1, fd2, fd3, fd4, fd5, fd6, fd7, fd8, fd9, fd10, fd11, fd12]
  (repeat' split) <;> first | rfl | omega
theorem T0_hasParcel {p : Int} : ev X m_X0_hasParcel 0 [vR B, vI p] [] (dput mem B d) = some (some (vI (if 0 ≤ p ∧ p < d.1 1 then 1 else 0)), dput mem B d) := by
  simp only [eX0_hasParcel_0, eX0_hasParcel_1, eX0_hasParcel_4, eX0_hasParcel_5, eX0_hasParcel_6, eX0_hasParcel_9, eX0_hasParcel_12, eX0_hasParcel_13, eX0_hasParcel_16, eX0_hasParcel_17a, eX0_hasParcel_17b, eX0_hasParcel_17c, evb_some, evm_some, evc_some, evc_none, gd, if_true, if_false, eq_self, fd0, fd1, fd2, fd3, fd4, fd5, fd6, fd7, fd8, fd9, fd10, fd11, fd12]
  (repeat' split) <;> first | rfl | omega
theorem T0_hasPair {p q : Int} : ev X m_X0_hasPair 0 [vR B, vI p, vI q] [] (dput mem B d) = some (some (vI (if 0 ≤ p ∧ p < d.1 0 ∧ 0 ≤ q ∧ q < d.1 0 ∧ p ≠ q then 1 else 0)), dput mem B d) := by
  simp only [eX0_hasPair_0, eX0_hasPair_1, eX0_hasPair_4, eX0_hasPair_5, eX0_hasPair_6, eX0_hasPair_9, eX0_hasPair_12, eX0_hasPair_13, eX0_hasPair_16, eX0_hasPair_17, eX0_hasPair_18, eX0_hasPair_21, eX0_hasPair_24, eX0_hasPair_25, eX0_hasPair_26, eX0_hasPair_29, eX0_hasPair_30, eX0_hasPair_33, eX0_hasPair_34a, eX0_hasPair_34b, eX0_hasPair_34c, evb_some, evm_some, evc_some, evc_none, gd, if_true, if_false, eq_self, fd0, fd1, fd2, fd3, fd4, fd5, fd6, fd7, fd8, fd9, fd10, fd11, fd12]
  (repeat' split) <;> first | rfl | omega
def miles (k : Int) : Int := if k = 0 then 2 else if k = 1 then 1 else if k = 5 then 4 else 3
theorem T0_milesOf {k : Int} : ev X m_X0_milesOf 0 [vI k] [] mem = some (some (vI (miles k)), mem) := by
  unfold miles
  simp only [eX0_milesOf_0, eX0_milesOf_1, eX0_milesOf_36, eX0_milesOf_37, eX0_milesOf_38, eX0_milesOf_39, eX0_milesOf_40, eX0_milesOf_41, eX0_milesOf_42, eX0_milesOf_43]
  (repeat' split) <;> first | rfl | omega
/-- MALICE of i for j -/
def mal (d : ST) (i j : Nat) : Int :=
  let h := (d.2 5).getD (6 * i + j) 0
  let f := (d.2 2).getD i 0
  let r := if 0 < h then w32 (h + f) else 0
  let k := (d.2 1).getD i 0
  let a := w32 ((d.2 3).getD i 0 - (d.2 3).getD j 0)
  if k = 1 then w32 (h.tdiv 2) else if k = 2 then r else if k = 3 then w32 (2 * r) else if k = 4 then w32 (w32 (h.tdiv 2) + f) else if k = 5 then (if a < 10 then (if -10 < a then w32 (2 * r) else 0) else 0) else h
theorem T0_maliceOf (hL : DL d) (h6 : d.1 0 ≤ 6) {i j : Nat} (hi : (i : Int) < d.1 0) (hj : (j : Int) < d.1 0) (hij : i ≠ j) : ev X m_X0_maliceOf 0 [vR B, vI (i : Int), vI (j : Int), vS, vS, vS, vS] [] (dput mem B d) = some (some (vI (mal d i j)), dput mem B d) := by
  obtain ⟨l1, l2, l3, l4, l5, l6, l7, l8, l9, l10⟩ := hL
  have i6 : i < 6 := by omega
  have j6 : j < 6 := by omega
  have ij : 6 * i + j < 36 := by omega
  have c1 : ¬ (i : Int) < 0 := by omega
  have c2 : ¬ (j : Int) < 0 := by omega
  have c3 : ¬ (i : Int) = (j : Int) := by omega
  simp only [eX0_maliceOf_0, eX0_maliceOf_1, eX0_maliceOf_4, eX0_maliceOf_5, eX0_maliceOf_6, eX0_maliceOf_9, eX0_maliceOf_12, eX0_maliceOf_13, eX0_maliceOf_16, eX0_maliceOf_17, eX0_maliceOf_18, eX0_maliceOf_21, eX0_maliceOf_24, eX0_maliceOf_25, eX0_maliceOf_26, eX0_maliceOf_29, eX0_maliceOf_30, eX0_maliceOf_31, eX0_maliceOf_32, eX0_maliceOf_35, eX0_maliceOf_36, eX0_maliceOf_38, eX0_maliceOf_39, eX0_maliceOf_40, eX0_maliceOf_41, eX0_maliceOf_42, eX0_maliceOf_43, eX0_maliceOf_44, eX0_maliceOf_47, eX0_maliceOf_48, eX0_maliceOf_49, eX0_maliceOf_51, eX0_maliceOf_52, eX0_maliceOf_55, eX0_maliceOf_56, eX0_maliceOf_57, eX0_maliceOf_58, eX0_maliceOf_61, eX0_maliceOf_62, eX0_maliceOf_63, eX0_maliceOf_64, eX0_maliceOf_66, eX0_maliceOf_67, eX0_maliceOf_70, eX0_maliceOf_71, eX0_maliceOf_73, eX0_maliceOf_74, eX0_maliceOf_77, eX0_maliceOf_78, eX0_maliceOf_80, eX0_maliceOf_81, eX0_maliceOf_84, eX0_maliceOf_85, eX0_maliceOf_86, eX0_maliceOf_120, eX0_maliceOf_121, eX0_maliceOf_122, eX0_maliceOf_123, eX0_maliceOf_124, eX0_maliceOf_126, eX0_maliceOf_127, eX0_maliceOf_128, eX0_maliceOf_130, eX0_maliceOf_131, eX0_maliceOf_132, eX0_maliceOf_133, eX0_maliceOf_134, eX0_maliceOf_135, eX0_maliceOf_137, eX0_maliceOf_138, eX0_maliceOf_139, eX0_maliceOf_141, eX0_maliceOf_143, eX0_maliceOf_146, eX0_maliceOf_148, eX0_maliceOf_150, eX0_maliceOf_153, eX0_maliceOf_154, eX0_maliceOf_157, eX0_maliceOf_158, eX0_maliceOf_160, eX0_maliceOf_161, eX0_maliceOf_162, eX0_maliceOf_163, evb_some, evm_some, evc_some, evc_none, gd, if_true, if_false, eq_self, fd0, fd1, fd2, fd3, fd4, fd5, fd6, fd7, fd8, fd9, fd10, fd11, fd12, ad1, ad2, ad3, ad4, ad5, ad6, ad7, ad8, ad9, ad10, l1, l2, l3, l5, i6, j6, ij, w32_idx i6 j6, if_neg c1, if_neg c2, if_neg c3, if_pos hi, if_pos hj, if_neg z2]
  unfold mal
  dsimp only
  generalize (d.2 5).getD (6 * i + j) 0 = h
  generalize (d.2 2).getD i 0 = f
  generalize (d.2 1).getD i 0 = k
  generalize w32 ((d.2 3).getD i 0 - (d.2 3).getD j 0) = a
  (repeat' split) <;> first | rfl | omega
theorem T0_maliceSelf (h6 : d.1 0 ≤ 6) {i : Nat} (hi : (i : Int) < d.1 0) : ev X m_X0_maliceOf 0 [vR B, vI (i : Int), vI (i : Int), vS, vS, vS, vS] [] (dput mem B d) = some (some (vI 0), dput mem B d) := by
  have c1 : ¬ (i : Int) < 0 := by omega
  simp only [eX0_maliceOf_0, eX0_maliceOf_1, eX0_maliceOf_4, eX0_maliceOf_5, eX0_maliceOf_6, eX0_maliceOf_9, eX0_maliceOf_12, eX0_maliceOf_13, eX0_maliceOf_16, eX0_maliceOf_17, eX0_maliceOf_18, eX0_maliceOf_21, eX0_maliceOf_24, eX0_maliceOf_25, eX0_maliceOf_26, eX0_maliceOf_29, eX0_maliceOf_30, eX0_maliceOf_31, eX0_maliceOf_32, eX0_maliceOf_35, eX0_maliceOf_36, eX0_maliceOf_38, eX0_maliceOf_39, eX0_maliceOf_40, eX0_maliceOf_41, eX0_maliceOf_42, eX0_maliceOf_43, eX0_maliceOf_44, eX0_maliceOf_47, eX0_maliceOf_48, eX0_maliceOf_49, eX0_maliceOf_51, eX0_maliceOf_52, eX0_maliceOf_55, eX0_maliceOf_56, eX0_maliceOf_57, eX0_maliceOf_58, evb_some, evm_some, evc_some, evc_none, gd, if_true, if_false, eq_self, fd0, fd1, fd2, fd3, fd4, fd5, fd6, fd7, fd8, fd9, fd10, fd11, fd12, if_neg c1, if_pos hi]
/-- ENEMY (but one): the best of the first k -/
def enS (d : ST) (q : Nat) (but : Int) : Nat → Int × Int
  | 0 => (-9, 4)
  | k + 1 => if (k : Int) = q then enS d q but k else if (k : Int) = but then enS d q but k else if (enS d q but k).2 < mal d k q then ((k : Int), mal d k q) else enS d q but k
def ene (d : ST) (q : Nat) (but : Int) : Int := (enS d q but (d.1 0).toNat).1
theorem T0_enemyOf (hL : DL d) (h6 : d.1 0 ≤ 6) {q : Nat} {but : Int} (hq : (q : Int) < d.1 0) : ev X m_X0_enemyOf 0 [vR B, vI (q : Int), vI but, vS, vS, vS, vS] [] (dput mem B d) = some (some (vI (ene d q but)), dput mem B d) := by
  obtain ⟨N, hN⟩ := n2i (show 0 ≤ d.1 0 by omega)
  have key : ∀ n k (z : AV), k + n = N → ev X m_X0_enemyOf 9 [vR B, vI (q : Int), vI but, vI (enS d q but k).1, vI (enS d q but k).2, vI (k : Int), z] [] (dput mem B d) = some (some (vI (ene d q but)), dput mem B d) := by
    intro n
    induction n with
    | zero =>
      intro k z hk
      have c1 : ¬ (k : Int) < d.1 0 := by omega
      have hk2 : ene d q but = (enS d q but k).1 := by rw [ene, show (d.1 0).toNat = k by omega]
      rw [eX0_enemyOf_9, hk2]
      simp only [eX0_enemyOf_0, eX0_enemyOf_2, eX0_enemyOf_3, eX0_enemyOf_4, eX0_enemyOf_6, eX0_enemyOf_7, eX0_enemyOf_11, eX0_enemyOf_12, eX0_enemyOf_15, eX0_enemyOf_18, eX0_enemyOf_20, eX0_enemyOf_21, eX0_enemyOf_24, eX0_enemyOf_26, eX0_enemyOf_27, eX0_enemyOf_30, eX0_enemyOf_33, eX0_enemyOf_34, eX0_enemyOf_36, eX0_enemyOf_37, eX0_enemyOf_40, eX0_enemyOf_42, eX0_enemyOf_44, eX0_enemyOf_46, eX0_enemyOf_49, eX0_enemyOf_51, eX0_enemyOf_53, eX0_enemyOf_55, eX0_enemyOf_56, eX0_enemyOf_59, eX0_enemyOf_62, eX0_enemyOf_63, evb_some, evm_some, evc_some, evc_none, gd, if_true, if_false, eq_self, fd0, fd1, fd2, fd3, fd4, fd5, fd6, fd7, fd8, fd9, fd10, fd11, fd12, if_neg c1]
    | succ n ih =>
      intro k z hk
      have c1 : (k : Int) < d.1 0 := by omega
      have e1 := fun z => ih (k + 1) z (by omega)
      rw [eX0_enemyOf_9]
      by_cases h1 : (k : Int) = (q : Int)
      · rw [show enS d q but (k + 1) = enS d q but k by rw [enS, if_pos h1]] at e1
        simp only [eX0_enemyOf_0, eX0_enemyOf_2, eX0_enemyOf_3, eX0_enemyOf_4, eX0_enemyOf_6, eX0_enemyOf_7, eX0_enemyOf_11, eX0_enemyOf_12, eX0_enemyOf_15, eX0_enemyOf_18, eX0_enemyOf_20, eX0_enemyOf_21, eX0_enemyOf_24, eX0_enemyOf_26, eX0_enemyOf_27, eX0_enemyOf_30, eX0_enemyOf_33, eX0_enemyOf_34, eX0_enemyOf_36, eX0_enemyOf_37, eX0_enemyOf_40, eX0_enemyOf_42, eX0_enemyOf_44, eX0_enemyOf_46, eX0_enemyOf_49, eX0_enemyOf_51, eX0_enemyOf_53, eX0_enemyOf_55, eX0_enemyOf_56, eX0_enemyOf_59, eX0_enemyOf_62, eX0_enemyOf_63, evb_some, evm_some, evc_some, evc_none, gd, if_true, if_false, eq_self, fd0, fd1, fd2, fd3, fd4, fd5, fd6, fd7, fd8, fd9, fd10, fd11, fd12, if_pos c1, if_pos h1, w32_k1 (show k < 2147483647 by omega), e1]
      by_cases h2 : (k : Int) = but
      · rw [show enS d q but (k + 1) = enS d q but k by rw [enS, if_neg h1, if_pos h2]] at e1
        simp only [eX0_enemyOf_0, eX0_enemyOf_2, eX0_enemyOf_3, eX0_enemyOf_4, eX0_enemyOf_6, eX0_enemyOf_7, eX0_enemyOf_11, eX0_enemyOf_12, eX0_enemyOf_15, eX0_enemyOf_18, eX0_enemyOf_20, eX0_enemyOf_21, eX0_enemyOf_24, eX0_enemyOf_26, eX0_enemyOf_27, eX0_enemyOf_30, eX0_enemyOf_33, eX0_enemyOf_34, eX0_enemyOf_36, eX0_enemyOf_37, eX0_enemyOf_40, eX0_enemyOf_42, eX0_enemyOf_44, eX0_enemyOf_46, eX0_enemyOf_49, eX0_enemyOf_51, eX0_enemyOf_53, eX0_enemyOf_55, eX0_enemyOf_56, eX0_enemyOf_59, eX0_enemyOf_62, eX0_enemyOf_63, evb_some, evm_some, evc_some, evc_none, gd, if_true, if_false, eq_self, fd0, fd1, fd2, fd3, fd4, fd5, fd6, fd7, fd8, fd9, fd10, fd11, fd12, if_pos c1, if_neg h1, if_pos h2, w32_k1 (show k < 2147483647 by omega), e1]
      have hm := T0_maliceOf (X := X) (mem := mem) (B := B) hL h6 c1 hq (show k ≠ q by omega)
      by_cases h3 : (enS d q but k).2 < mal d k q
      · rw [show enS d q but (k + 1) = ((k : Int), mal d k q) by rw [enS, if_neg h1, if_neg h2, if_pos h3]] at e1
        simp only [eX0_enemyOf_0, eX0_enemyOf_2, eX0_enemyOf_3, eX0_enemyOf_4, eX0_enemyOf_6, eX0_enemyOf_7, eX0_enemyOf_11, eX0_enemyOf_12, eX0_enemyOf_15, eX0_enemyOf_18, eX0_enemyOf_20, eX0_enemyOf_21, eX0_enemyOf_24, eX0_enemyOf_26, eX0_enemyOf_27, eX0_enemyOf_30, eX0_enemyOf_33, eX0_enemyOf_34, eX0_enemyOf_36, eX0_enemyOf_37, eX0_enemyOf_40, eX0_enemyOf_42, eX0_enemyOf_44, eX0_enemyOf_46, eX0_enemyOf_49, eX0_enemyOf_51, eX0_enemyOf_53, eX0_enemyOf_55, eX0_enemyOf_56, eX0_enemyOf_59, eX0_enemyOf_62, eX0_enemyOf_63, evb_some, evm_some, evc_some, evc_none, gd, if_true, if_false, eq_self, fd0, fd1, fd2, fd3, fd4, fd5, fd6, fd7, fd8, fd9, fd10, fd11, fd12, if_pos c1, if_neg h1, if_neg h2, if_pos h3, hm, w32_k1 (show k < 2147483647 by omega), e1]
      · rw [show enS d q but (k + 1) = enS d q but k by rw [enS, if_neg h1, if_neg h2, if_neg h3]] at e1
        simp only [eX0_enemyOf_0, eX0_enemyOf_2, eX0_enemyOf_3, eX0_enemyOf_4, eX0_enemyOf_6, eX0_enemyOf_7, eX0_enemyOf_11, eX0_enemyOf_12, eX0_enemyOf_15, eX0_enemyOf_18, eX0_enemyOf_20, eX0_enemyOf_21, eX0_enemyOf_24, eX0_enemyOf_26, eX0_enemyOf_27, eX0_enemyOf_30, eX0_enemyOf_33, eX0_enemyOf_34, eX0_enemyOf_36, eX0_enemyOf_37, eX0_enemyOf_40, eX0_enemyOf_42, eX0_enemyOf_44, eX0_enemyOf_46, eX0_enemyOf_49, eX0_enemyOf_51, eX0_enemyOf_53, eX0_enemyOf_55, eX0_enemyOf_56, eX0_enemyOf_59, eX0_enemyOf_62, eX0_enemyOf_63, evb_some, evm_some, evc_some, evc_none, gd, if_true, if_false, eq_self, fd0, fd1, fd2, fd3, fd4, fd5, fd6, fd7, fd8, fd9, fd10, fd11, fd12, if_pos c1, if_neg h1, if_neg h2, if_neg h3, hm, w32_k1 (show k < 2147483647 by omega), e1]
  exact Eq.trans (by simp only [eX0_enemyOf_0, eX0_enemyOf_2, eX0_enemyOf_3, eX0_enemyOf_4, eX0_enemyOf_6, eX0_enemyOf_7]; rfl) (key N 0 vS (by omega))
end DU
