/-! THE DUCHY'S WRITERS, THE CLASS'S; WHAT A DUCHY MUST BE -/
def clamp (v : Int) : Int := if v < 0 then 0 else if 99 < v then 99 else v
def hat (d : ST) (i j : Nat) : Int := (d.2 5).getD (6 * i + j) 0
def setH (d : ST) (i j : Nat) (v : Int) : ST := setL d 5 ((d.2 5).set (6 * i + j) v)
def addH (d : ST) (i j : Nat) (x : Int) : ST := setH d i j (clamp (w32 (hat d i j + x)))
def peace (d : ST) (i j : Nat) : ST := setH (setH d i j (w32 ((hat d i j).tdiv 2))) j i (w32 ((hat (setH d i j (w32 ((hat d i j).tdiv 2))) j i).tdiv 2))
def apt (d : ST) (i j : Nat) : Int := if (d.2 3).getD j 0 ≤ (d.2 3).getD i 0 then (d.2 3).getD i 0 - (d.2 3).getD j 0 else (d.2 3).getD j 0 - (d.2 3).getD i 0
def DW (d : ST) : Prop := DL d ∧ (0 ≤ d.1 0 ∧ d.1 0 ≤ 6) ∧ (0 ≤ d.1 1 ∧ d.1 1 ≤ 8) ∧ (∀ i, i < 6 → 0 ≤ (d.2 3).getD i 0 ∧ (d.2 3).getD i 0 ≤ 30) ∧ (∀ i, i < 6 → 0 ≤ (d.2 4).getD i 0 ∧ (d.2 4).getD i 0 ≤ 999) ∧ (∀ i j, i < 6 → j < 6 → 0 ≤ hat d i j ∧ hat d i j ≤ 99) ∧ (∀ i j : Nat, i < 6 → j < 6 → (d.1 0 ≤ i ∨ d.1 0 ≤ j ∨ i = j) → hat d i j = 0) ∧
  ∀ c : Nat, (c : Int) < d.1 1 → (0 ≤ (d.2 6).getD c 0 ∧ (d.2 6).getD c 0 < d.1 0) ∧ (0 ≤ (d.2 7).getD c 0 ∧ (d.2 7).getD c 0 ≤ 9) ∧ ((d.2 8).getD c 0 = 1 → (0 ≤ (d.2 9).getD c 0 ∧ (d.2 9).getD c 0 < d.1 0) ∧ (d.2 9).getD c 0 ≠ (d.2 6).getD c 0 ∧ (1 ≤ (d.2 10).getD c 0 ∧ (d.2 10).getD c 0 ≤ 100))
section DW
variable {X : List Int} {mem : AM} {B : Nat} {d : ST}
theorem idx_ne {i j a b : Nat} (hi : i < 6) (hj : j < 6) (ha : a < 6) (hb : b < 6) (h : ¬ (i = a ∧ j = b)) : 6 * i + j ≠ 6 * a + b := by omega
theorem hat_setH (hL : DL d) {i j a b : Nat} {v : Int} (hi : i < 6) (hj : j < 6) (ha : a < 6) (hb : b < 6) : hat (setH d a b v) i j = if i = a ∧ j = b then v else hat d i j := by
  unfold hat setH
  rw [setL_2, if_pos rfl, getD_set (by rw [hL.2.2.2.2.1]; omega)]
  by_cases h : i = a ∧ j = b
  · rw [if_pos h, if_pos (by omega)]
  · rw [if_neg h, if_neg (idx_ne hi hj ha hb h)]
theorem DL_setH (hL : DL d) {i j : Nat} {v : Int} : DL (setH d i j v) := by
  obtain ⟨l1, l2, l3, l4, l5, l6, l7, l8, l9, l10⟩ := hL
  exact ⟨l1, l2, l3, l4, by rw [setH, setL_2, if_pos rfl, List.length_set]; exact l5, l6, l7, l8, l9, l10⟩
theorem DW_setH (h : DW d) {i j : Nat} {v : Int} (hi : (i : Int) < d.1 0) (hj : (j : Int) < d.1 0) (hij : i ≠ j) (hv : 0 ≤ v ∧ v ≤ 99) : DW (setH d i j v) := by
  obtain ⟨hL, h6, h8, hp, hg, hh, hz, hc⟩ := h
  refine ⟨DL_setH hL, h6, h8, hp, hg, fun a b ha hb => ?_, fun a b ha hb hab => ?_, hc⟩
  · rw [hat_setH hL ha hb (by omega) (by omega)]
    split
    · exact hv
    · exact hh a b ha hb
  · have hab2 : d.1 0 ≤ a ∨ d.1 0 ≤ b ∨ a = b := hab
    rw [hat_setH hL ha hb (by omega) (by omega), if_neg (by omega)]
    exact hz a b ha hb hab2
theorem clamp_b (v : Int) : 0 ≤ clamp v ∧ clamp v ≤ 99 := by
  unfold clamp
  split
  · omega
  · split <;> omega
theorem DW_addH (h : DW d) {i j : Nat} {x : Int} (hi : (i : Int) < d.1 0) (hj : (j : Int) < d.1 0) (hij : i ≠ j) : DW (addH d i j x) := DW_setH h hi hj hij (clamp_b _)
theorem half_b {h : Int} (hh : 0 ≤ h ∧ h ≤ 99) : 0 ≤ w32 (h.tdiv 2) ∧ w32 (h.tdiv 2) ≤ 99 ∧ w32 (h.tdiv 2) = h / 2 := by
  have h1 : h.tdiv 2 = h / 2 := Int.tdiv_eq_ediv_of_nonneg hh.1
  rw [h1, w32_id (by omega) (by omega)]
  omega
theorem DW_peace (h : DW d) {i j : Nat} (hi : (i : Int) < d.1 0) (hj : (j : Int) < d.1 0) (hij : i ≠ j) : DW (peace d i j) := by
  have h1 := half_b (h.2.2.2.2.2.1 i j (by have := h.2.1; omega) (by have := h.2.1; omega))
  have h2 : DW (setH d i j (w32 ((hat d i j).tdiv 2))) := DW_setH h hi hj hij ⟨h1.1, h1.2.1⟩
  have h3 := half_b (h2.2.2.2.2.2.1 j i (by have := h.2.1; omega) (by have := h.2.1; omega))
  exact DW_setH h2 hj hi (fun e => hij e.symm) ⟨h3.1, h3.2.1⟩
theorem T0_hateOf (hL : DL d) (h6 : d.1 0 ≤ 6) {i j : Nat} (hi : (i : Int) < d.1 0) (hj : (j : Int) < d.1 0) (hij : i ≠ j) : ev X m_X0_hateOf 0 [vR B, vI (i : Int), vI (j : Int)] [] (dput mem B d) = some (some (vI (hat d i j)), dput mem B d) := by
  obtain ⟨l1, l2, l3, l4, l5, l6, l7, l8, l9, l10⟩ := hL
  have ij : 6 * i + j < 36 := by omega
  simp only [eX0_hateOf_0, eX0_hateOf_1, eX0_hateOf_2, eX0_hateOf_3, eX0_hateOf_6, eX0_hateOf_9, eX0_hateOf_10, eX0_hateOf_13, eX0_hateOf_14, eX0_hateOf_16, eX0_hateOf_17, eX0_hateOf_18, eX0_hateOf_19, eX0_hateOf_20, eX0_hateOf_23, eX0_hateOf_24, evb_some, evm_some, evc_some, evc_none, gd, if_true, if_false, eq_self, and_self, and_true, true_and, ne_eq, not_false_eq_true, or_true, true_or, fd0, fd1, fd2, fd3, fd4, fd5, fd6, fd7, fd8, fd9, fd10, fd11, fd12, ad1, ad2, ad3, ad4, ad5, ad6, ad7, ad8, ad9, ad10, T0_hasPair, l5, ij, w32_idx (show i < 6 by omega) (show j < 6 by omega), if_pos (show 0 ≤ (i : Int) ∧ (i : Int) < d.1 0 ∧ 0 ≤ (j : Int) ∧ (j : Int) < d.1 0 ∧ (i : Int) ≠ (j : Int) by omega), show ¬ (1 : Int) = 0 by decide, hat]
theorem T0_setHate (hL : DL d) (h6 : d.1 0 ≤ 6) {i j : Nat} {v : Int} (hi : (i : Int) < d.1 0) (hj : (j : Int) < d.1 0) (hij : i ≠ j) : ev X m_X0_setHate 0 [vR B, vI (i : Int), vI (j : Int), vI v] [] (dput mem B d) = some (some (vI 1), dput mem B (setH d i j v)) := by
  obtain ⟨l1, l2, l3, l4, l5, l6, l7, l8, l9, l10⟩ := hL
  have ij : 6 * i + j < 36 := by omega
  simp only [eX0_setHate_0, eX0_setHate_1, eX0_setHate_2, eX0_setHate_3, eX0_setHate_6, eX0_setHate_9, eX0_setHate_10a, eX0_setHate_10b, eX0_setHate_10c, eX0_setHate_11, eX0_setHate_12, eX0_setHate_15, eX0_setHate_16, eX0_setHate_18, eX0_setHate_19, eX0_setHate_20, eX0_setHate_21, eX0_setHate_22, eX0_setHate_23, eX0_setHate_24a, eX0_setHate_24b, eX0_setHate_24c, evb_some, evm_some, evc_some, evc_none, gd, if_true, if_false, eq_self, and_self, and_true, true_and, ne_eq, not_false_eq_true, or_true, true_or, fd0, fd1, fd2, fd3, fd4, fd5, fd6, fd7, fd8, fd9, fd10, fd11, fd12, pd1, pd2, pd3, pd4, pd5, pd6, pd7, pd8, pd9, pd10, T0_hasPair, l5, ij, w32_idx (show i < 6 by omega) (show j < 6 by omega), if_pos (show 0 ≤ (i : Int) ∧ (i : Int) < d.1 0 ∧ 0 ≤ (j : Int) ∧ (j : Int) < d.1 0 ∧ (i : Int) ≠ (j : Int) by omega), show ¬ (1 : Int) = 0 by decide, setH]
theorem T0_setHateNo {i j v : Int} (h : ¬ (0 ≤ i ∧ i < d.1 0 ∧ 0 ≤ j ∧ j < d.1 0 ∧ i ≠ j)) : ev X m_X0_setHate 0 [vR B, vI i, vI j, vI v] [] (dput mem B d) = some (some (vI 0), dput mem B d) := by
  simp only [eX0_setHate_0, eX0_setHate_1, eX0_setHate_2, eX0_setHate_3, eX0_setHate_6, eX0_setHate_9, eX0_setHate_10a, eX0_setHate_10b, eX0_setHate_10c, eX0_setHate_11, eX0_setHate_12, eX0_setHate_15, eX0_setHate_16, eX0_setHate_18, eX0_setHate_19, eX0_setHate_20, eX0_setHate_21, eX0_setHate_22, eX0_setHate_23, eX0_setHate_24a, eX0_setHate_24b, eX0_setHate_24c, evb_some, evm_some, evc_some, evc_none, gd, if_true, if_false, eq_self, and_self, and_true, true_and, ne_eq, not_false_eq_true, or_true, true_or, fd0, fd1, fd2, fd3, fd4, fd5, fd6, fd7, fd8, fd9, fd10, fd11, fd12, T0_hasPair, if_neg h]
theorem clamp_c (v : Int) : (if 0 < (if v < 99 then v else 99) then (if v < 99 then v else 99) else 0) = clamp v := by
  unfold clamp
  (repeat' split) <;> omega
theorem T0_addHate (hL : DL d) (h6 : d.1 0 ≤ 6) {i j : Nat} {x : Int} {z : AV} (hi : (i : Int) < d.1 0) (hj : (j : Int) < d.1 0) (hij : i ≠ j) : ev X m_X0_addHate 0 [vR B, vI (i : Int), vI (j : Int), vI x, z] [] (dput mem B d) = some (some (vI 1), dput mem B (addH d i j x)) := by
  obtain ⟨l1, l2, l3, l4, l5, l6, l7, l8, l9, l10⟩ := hL
  have ij : 6 * i + j < 36 := by omega
  simp only [eX0_addHate_0, eX0_addHate_1, eX0_addHate_2, eX0_addHate_3, eX0_addHate_6, eX0_addHate_9, eX0_addHate_10a, eX0_addHate_10b, eX0_addHate_10c, eX0_addHate_11, eX0_addHate_12, eX0_addHate_14, eX0_addHate_15, eX0_addHate_16, eX0_addHate_17, eX0_addHate_19, eX0_addHate_20, eX0_addHate_23, eX0_addHate_25, eX0_addHate_26, eX0_addHate_28, eX0_addHate_29, eX0_addHate_32, eX0_addHate_34, eX0_addHate_35, eX0_addHate_36, eX0_addHate_37, eX0_addHate_40, eX0_addHate_43, eX0_addHate_44, eX0_addHate_45a, eX0_addHate_45b, eX0_addHate_45c, evb_some, evm_some, evc_some, evc_none, gd, if_true, if_false, eq_self, and_self, and_true, true_and, ne_eq, not_false_eq_true, or_true, true_or, fd0, fd1, fd2, fd3, fd4, fd5, fd6, fd7, fd8, fd9, fd10, fd11, fd12, ad1, ad2, ad3, ad4, ad5, ad6, ad7, ad8, ad9, ad10, pd1, pd2, pd3, pd4, pd5, pd6, pd7, pd8, pd9, pd10, T0_hasPair, l5, ij, w32_idx (show i < 6 by omega) (show j < 6 by omega), if_pos (show 0 ≤ (i : Int) ∧ (i : Int) < d.1 0 ∧ 0 ≤ (j : Int) ∧ (j : Int) < d.1 0 ∧ (i : Int) ≠ (j : Int) by omega), show ¬ (1 : Int) = 0 by decide, addH, setH, hat, clamp_c]
theorem T0_addHateNo {i j x : Int} {z : AV} (h : ¬ (0 ≤ i ∧ i < d.1 0 ∧ 0 ≤ j ∧ j < d.1 0 ∧ i ≠ j)) : ev X m_X0_addHate 0 [vR B, vI i, vI j, vI x, z] [] (dput mem B d) = some (some (vI 0), dput mem B d) := by
  simp only [eX0_addHate_0, eX0_addHate_1, eX0_addHate_2, eX0_addHate_3, eX0_addHate_6, eX0_addHate_9, eX0_addHate_10a, eX0_addHate_10b, eX0_addHate_10c, eX0_addHate_11, eX0_addHate_12, eX0_addHate_14, eX0_addHate_15, eX0_addHate_16, eX0_addHate_17, eX0_addHate_19, eX0_addHate_20, eX0_addHate_23, eX0_addHate_25, eX0_addHate_26, eX0_addHate_28, eX0_addHate_29, eX0_addHate_32, eX0_addHate_34, eX0_addHate_35, eX0_addHate_36, eX0_addHate_37, eX0_addHate_40, eX0_addHate_43, eX0_addHate_44, eX0_addHate_45a, eX0_addHate_45b, eX0_addHate_45c, evb_some, evm_some, evc_some, evc_none, gd, if_true, if_false, eq_self, and_self, and_true, true_and, ne_eq, not_false_eq_true, or_true, true_or, fd0, fd1, fd2, fd3, fd4, fd5, fd6, fd7, fd8, fd9, fd10, fd11, fd12, T0_hasPair, if_neg h]
theorem T0_makePeace (hL : DL d) (h6 : d.1 0 ≤ 6) {i j : Nat} (hi : (i : Int) < d.1 0) (hj : (j : Int) < d.1 0) (hij : i ≠ j) : ev X m_X0_makePeace 0 [vR B, vI (i : Int), vI (j : Int)] [] (dput mem B d) = some (some (vI 1), dput mem B (peace d i j)) := by
  have h1 := T0_hateOf (X := X) (mem := mem) (B := B) hL h6 hi hj hij
  have h2 := T0_setHate (X := X) (mem := mem) (B := B) (v := w32 ((hat d i j).tdiv 2)) hL h6 hi hj hij
  have h3 := T0_hateOf (X := X) (mem := mem) (B := B) (DL_setH hL (i := i) (j := j) (v := w32 ((hat d i j).tdiv 2))) h6 hj hi (fun e => hij e.symm)
  have h4 := T0_setHate (X := X) (mem := mem) (B := B) (v := w32 ((hat (setH d i j (w32 ((hat d i j).tdiv 2))) j i).tdiv 2)) (DL_setH hL (i := i) (j := j) (v := w32 ((hat d i j).tdiv 2))) h6 hj hi (fun e => hij e.symm)
  simp only [eX0_makePeace_0, eX0_makePeace_1, eX0_makePeace_2, eX0_makePeace_3, eX0_makePeace_4, eX0_makePeace_5, eX0_makePeace_6, eX0_makePeace_9, eX0_makePeace_10, eX0_makePeace_11, eX0_makePeace_14, eX0_makePeace_14r, eX0_makePeace_15, eX0_makePeace_16, eX0_makePeace_17, eX0_makePeace_18, eX0_makePeace_19, eX0_makePeace_20, eX0_makePeace_21, eX0_makePeace_24, eX0_makePeace_25, eX0_makePeace_26, eX0_makePeace_29a, eX0_makePeace_29b, eX0_makePeace_29c, evb_some, evm_some, evc_some, evc_none, gd, if_true, if_false, eq_self, and_self, and_true, true_and, ne_eq, not_false_eq_true, or_true, true_or, if_neg z2, h1, h2, h3, h4, peace]
theorem T0_hateOfNo {i j : Int} (h : ¬ (0 ≤ i ∧ i < d.1 0 ∧ 0 ≤ j ∧ j < d.1 0 ∧ i ≠ j)) : ev X m_X0_hateOf 0 [vR B, vI i, vI j] [] (dput mem B d) = some (some (vI 0), dput mem B d) := by
  simp only [eX0_hateOf_0, eX0_hateOf_1, eX0_hateOf_2, eX0_hateOf_3, eX0_hateOf_6, eX0_hateOf_9, eX0_hateOf_10, eX0_hateOf_13, eX0_hateOf_14, eX0_hateOf_16, eX0_hateOf_17, eX0_hateOf_18, eX0_hateOf_19, eX0_hateOf_20, eX0_hateOf_23, eX0_hateOf_24, evb_some, evm_some, evc_some, evc_none, gd, if_true, if_false, eq_self, and_self, and_true, true_and, ne_eq, not_false_eq_true, or_true, true_or, fd0, fd1, fd2, fd3, fd4, fd5, fd6, fd7, fd8, fd9, fd10, fd11, fd12, T0_hasPair, if_neg h]
theorem T0_makePeaceNo {i j : Int} (h : ¬ (0 ≤ i ∧ i < d.1 0 ∧ 0 ≤ j ∧ j < d.1 0 ∧ i ≠ j)) : ev X m_X0_makePeace 0 [vR B, vI i, vI j] [] (dput mem B d) = some (some (vI 0), dput mem B d) := by
  have h' : ¬ (0 ≤ j ∧ j < d.1 0 ∧ 0 ≤ i ∧ i < d.1 0 ∧ j ≠ i) := by omega
  have e1 := fun v => T0_setHateNo (X := X) (mem := mem) (B := B) (v := v) h
  have e2 := fun v => T0_setHateNo (X := X) (mem := mem) (B := B) (v := v) h'
  simp only [eX0_makePeace_0, eX0_makePeace_1, eX0_makePeace_2, eX0_makePeace_3, eX0_makePeace_4, eX0_makePeace_5, eX0_makePeace_6, eX0_makePeace_9, eX0_makePeace_10, eX0_makePeace_11, eX0_makePeace_14, eX0_makePeace_14r, eX0_makePeace_15, eX0_makePeace_16, eX0_makePeace_17, eX0_makePeace_18, eX0_makePeace_19, eX0_makePeace_20, eX0_makePeace_21, eX0_makePeace_24, eX0_makePeace_25, eX0_makePeace_26, eX0_makePeace_29a, eX0_makePeace_29b, eX0_makePeace_29c, evb_some, evm_some, evc_some, evc_none, gd, if_true, if_false, eq_self, and_self, and_true, true_and, ne_eq, not_false_eq_true, or_true, true_or, if_neg z2, T0_hateOfNo h, T0_hateOfNo h', e1, e2]
theorem T0_apart (h : DW d) {i j : Nat} (hi : (i : Int) < d.1 0) (hj : (j : Int) < d.1 0) (hij : i ≠ j) : ev X m_X0_apart 0 [vR B, vI (i : Int), vI (j : Int)] [] (dput mem B d) = some (some (vI (apt d i j)), dput mem B d) := by
  obtain ⟨⟨l1, l2, l3, l4, l5, l6, l7, l8, l9, l10⟩, h6, h8, hp, -⟩ := h
  have i6 : i < 6 := by omega
  have j6 : j < 6 := by omega
  have p1 := hp i i6
  have p2 := hp j j6
  simp only [eX0_apart_0, eX0_apart_1, eX0_apart_2, eX0_apart_3, eX0_apart_6, eX0_apart_9, eX0_apart_10, eX0_apart_13, eX0_apart_14, eX0_apart_15, eX0_apart_16, eX0_apart_19, eX0_apart_20, eX0_apart_21, eX0_apart_22, eX0_apart_25, eX0_apart_28, eX0_apart_29, evb_some, evm_some, evc_some, evc_none, gd, if_true, if_false, eq_self, and_self, and_true, true_and, ne_eq, not_false_eq_true, or_true, true_or, fd0, fd1, fd2, fd3, fd4, fd5, fd6, fd7, fd8, fd9, fd10, fd11, fd12, ad1, ad2, ad3, ad4, ad5, ad6, ad7, ad8, ad9, ad10, T0_hasPair, l3, i6, j6, if_pos (show 0 ≤ (i : Int) ∧ (i : Int) < d.1 0 ∧ 0 ≤ (j : Int) ∧ (j : Int) < d.1 0 ∧ (i : Int) ≠ (j : Int) by omega), show ¬ (1 : Int) = 0 by decide]
  unfold apt
  rw [w32_id (n := (d.2 3).getD i 0 - (d.2 3).getD j 0) (by omega) (by omega)]
  by_cases q : (d.2 3).getD j 0 ≤ (d.2 3).getD i 0
  · rw [if_pos (by omega), if_pos q, w32_id (by omega) (by omega)]
  · rw [if_neg (by omega), if_neg q, w32_id (by omega) (by omega)]
    congr 4
    omega
def dor (a k : Int) : Int := w32 (w32 ((w32 (w32 (a + miles k) - 1)).tdiv (miles k)) + 1)
theorem miles_b (k : Int) : 1 ≤ miles k ∧ miles k ≤ 4 := by
  unfold miles
  (repeat' split) <;> omega
theorem T0_daysOnRoad {a k : Int} : ev X m_X0_daysOnRoad 0 [vI a, vI (miles k)] [] mem = some (some (vI (dor a k)), mem) := by
  have h1 := miles_b k
  simp only [eX0_daysOnRoad_0, eX0_daysOnRoad_1, eX0_daysOnRoad_2, eX0_daysOnRoad_5, eX0_daysOnRoad_6, eX0_daysOnRoad_9, eX0_daysOnRoad_10, eX0_daysOnRoad_11, eX0_daysOnRoad_12, eX0_daysOnRoad_13, eX0_daysOnRoad_14, eX0_daysOnRoad_15, eX0_daysOnRoad_16, eX0_daysOnRoad_17, eX0_daysOnRoad_18, evb_some, evm_some, evc_some, evc_none, gd, if_true, if_false, eq_self, and_self, and_true, true_and, ne_eq, not_false_eq_true, or_true, true_or, if_neg (show ¬ miles k < 1 by omega), if_neg (show ¬ miles k = 0 by omega), dor]
theorem dor_b {a k : Int} (h : 0 ≤ a ∧ a ≤ 30) : 1 ≤ dor a k ∧ dor a k ≤ 100 := by
  have h1 := miles_b k
  unfold dor
  rw [w32_id (n := a + miles k) (by omega) (by omega), w32_id (n := a + miles k - 1) (by omega) (by omega)]
  have h2 : 0 ≤ (a + miles k - 1).tdiv (miles k) := Int.tdiv_nonneg (by omega) (by omega)
  have h3 : (a + miles k - 1).tdiv (miles k) ≤ a + miles k - 1 := Int.tdiv_le_self _ (by omega)
  rw [w32_id (n := (a + miles k - 1).tdiv (miles k)) (by omega) (by omega), w32_id (by omega) (by omega)]
  omega
theorem apt_b (h : DW d) {i j : Nat} (hi : i < 6) (hj : j < 6) : 0 ≤ apt d i j ∧ apt d i j ≤ 30 := by
  have h1 := h.2.2.2.1 i hi
  have h2 := h.2.2.2.1 j hj
  unfold apt
  split <;> omega
/-- what ENEMY is -/
theorem ene_spec (d : ST) (h : 0 ≤ d.1 0) (q : Nat) (but : Int) : ene d q but = -9 ∨ (0 ≤ ene d q but ∧ ene d q but < d.1 0 ∧ ene d q but ≠ q ∧ ene d q but ≠ but ∧ 5 ≤ mal d (ene d q but).toNat q) := by
  have h1 := itr_inv (f := enF d q but) (fun (k : Nat) (s : Int × Int) => s.1 = -9 ∧ s.2 = 4 ∨ (0 ≤ s.1 ∧ s.1 < (k : Int) ∧ s.1 ≠ q ∧ s.1 ≠ but ∧ 5 ≤ s.2 ∧ s.2 = mal d s.1.toNat q)) (d.1 0).toNat (by
    intro k s hk hi
    have h0 : s.1 = -9 ∧ s.2 = 4 ∨ (0 ≤ s.1 ∧ s.1 < ((k + 1 : Nat) : Int) ∧ s.1 ≠ q ∧ s.1 ≠ but ∧ 5 ≤ s.2 ∧ s.2 = mal d s.1.toNat q) := by
      rcases hi with h | h
      · exact Or.inl h
      · exact Or.inr ⟨h.1, by omega, h.2.2⟩
    have h4 : 4 ≤ s.2 := by omega
    unfold enF
    split
    · exact h0
    · split
      · exact h0
      · split
        · exact Or.inr ⟨by dsimp only; omega, by dsimp only; omega, by assumption, by assumption, by dsimp only; omega, by simp⟩
        · exact h0) (d.1 0).toNat 0 (-9, 4) (by omega) (Or.inl ⟨rfl, rfl⟩)
  unfold ene
  rcases h1 with h1 | h1
  · exact Or.inl h1.1
  · exact Or.inr ⟨h1.1, by have := h1.2.1; omega, h1.2.2.1, h1.2.2.2.1, by rw [← h1.2.2.2.2.2]; exact h1.2.2.2.2.1⟩
/-- a DAY: what is CARRIED -/
def caF (c : Nat) (d : ST) : ST :=
  if (d.2 8).getD c 0 = 1 then
    if 0 < w32 ((d.2 10).getD c 0 - 1) then setL d 10 ((d.2 10).set c (w32 ((d.2 10).getD c 0 - 1)))
    else addH (setL (setL (setL d 8 ((d.2 8).set c 2)) 10 ((d.2 10).set c 0)) 4 ((d.2 4).set ((d.2 6).getD c 0).toNat (if w32 ((d.2 4).getD ((d.2 6).getD c 0).toNat 0 + 1) < 999 then w32 ((d.2 4).getD ((d.2 6).getD c 0).toNat 0 + 1) else 999))) ((d.2 9).getD c 0).toNat ((d.2 6).getD c 0).toNat (w32 (-(d.2 7).getD c 0))
  else d
theorem caF_1 (c : Nat) (d : ST) : (caF c d).1 = d.1 := by
  unfold caF addH setH setL
  (repeat' split) <;> rfl
theorem caF_6 (c : Nat) (d : ST) : (caF c d).2 6 = d.2 6 ∧ (caF c d).2 7 = d.2 7 ∧ (caF c d).2 9 = d.2 9 ∧ (caF c d).2 1 = d.2 1 ∧ (caF c d).2 2 = d.2 2 ∧ (caF c d).2 3 = d.2 3 := by
  unfold caF addH setH setL
  (repeat' split) <;> exact ⟨rfl, rfl, rfl, rfl, rfl, rfl⟩
theorem DW_caF (h : DW d) {c : Nat} (hc : (c : Int) < d.1 1) : DW (caF c d) := by
  have h' := h
  obtain ⟨⟨l1, l2, l3, l4, l5, l6, l7, l8, l9, l10⟩, h6, h8, hp, hg, hh, hz, hcc⟩ := h
  have c8 : c < 8 := by omega
  unfold caF
  split
  · rename_i h1
    obtain ⟨⟨t0, t1⟩, ⟨w0, w1⟩, hb⟩ := hcc c hc
    obtain ⟨⟨b0, b1⟩, b2, b3⟩ := hb h1
    split
    · rename_i h2
      refine ⟨⟨l1, l2, l3, l4, l5, l6, l7, l8, l9, by rw [setL_2, if_pos rfl, List.length_set]; exact l10⟩, h6, h8, hp, hg, hh, hz, fun e he => ?_⟩
      obtain ⟨q1, q2, q3⟩ := hcc e he
      refine ⟨q1, q2, fun z => ?_⟩
      obtain ⟨q4, q5, q6⟩ := q3 z
      refine ⟨q4, q5, ?_⟩
      rw [setL_2, if_pos rfl, getD_set (by rw [l10]; exact c8)]
      rw [w32_id (by omega) (by omega)] at h2 ⊢
      split
      · omega
      · exact q6
    · rename_i h2
      have hgt := hg ((d.2 6).getD c 0).toNat (by omega)
      have key : DW (setL (setL (setL d 8 ((d.2 8).set c 2)) 10 ((d.2 10).set c 0)) 4 ((d.2 4).set ((d.2 6).getD c 0).toNat (if w32 ((d.2 4).getD ((d.2 6).getD c 0).toNat 0 + 1) < 999 then w32 ((d.2 4).getD ((d.2 6).getD c 0).toNat 0 + 1) else 999))) := by
        refine ⟨⟨l1, l2, l3, by rw [setL_2, if_pos rfl, List.length_set]; exact l4, l5, l6, l7, by rw [setL_2, if_neg (by decide), setL_2, if_neg (by decide), setL_2, if_pos rfl, List.length_set]; exact l8, l9, by rw [setL_2, if_neg (by decide), setL_2, if_pos rfl, List.length_set]; exact l10⟩, h6, h8, hp, fun i hi => ?_, hh, hz, fun e he => ?_⟩
        · rw [setL_2, if_pos rfl, getD_set (by rw [l4]; omega)]
          split
          · rw [w32_id (by omega) (by omega)]
            split <;> omega
          · exact hg i hi
        · obtain ⟨q1, q2, q3⟩ := hcc e he
          refine ⟨q1, q2, fun z => ?_⟩
          rw [setL_2, if_neg (by decide), setL_2, if_neg (by decide), setL_2, if_pos rfl, getD_set (by rw [l8]; exact c8)] at z
          split at z
          · omega
          · rename_i hne
            obtain ⟨q4, q5, q6⟩ := q3 z
            refine ⟨q4, q5, ?_⟩
            rw [setL_2, if_neg (by decide), setL_2, if_pos rfl, getD_set (by rw [l10]; exact c8), if_neg hne]
            exact q6
      exact DW_addH key (show ((((d.2 9).getD c 0).toNat : Nat) : Int) < d.1 0 by omega) (show ((((d.2 6).getD c 0).toNat : Nat) : Int) < d.1 0 by omega) (by omega)
  · exact h'
end DW
