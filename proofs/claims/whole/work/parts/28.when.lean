/-! WHEN; and small things of both -/
section WH
variable {X : List Int} {mem : AM} {B : Nat} {g d n t mi la : ST}
theorem T0_addParcel (hL : DL d) (h0 : 0 ≤ d.1 1) {p v : Int} (hp : 0 ≤ p ∧ p < d.1 0) (h8 : d.1 1 < 8) : ev X m_X0_addParcel 0 [vR B, vI p, vI v] [] (dput mem B d) = some (some (vI 1), dput mem B (addP d p v)) := by
  obtain ⟨l1, l2, l3, l4, l5, l6, l7, l8, l9, l10⟩ := hL
  obtain ⟨c, hc⟩ := n2i h0
  have c8 : c < 8 := by omega
  have q1 : ¬ (c : Int) < 0 := by omega
  have q2 : (c : Int) < 8 := by omega
  have hP := T0_hasPersonY (X := X) (mem := mem) (B := B) hp
  have e : addP d p v = setS (setL (setL (setL (setL (setL d 6 ((d.2 6).set c p)) 7 ((d.2 7).set c v)) 8 ((d.2 8).set c 0)) 9 ((d.2 9).set c (-9))) 10 ((d.2 10).set c 0)) 1 (w32 ((c : Int) + 1)) := by
    unfold addP
    rw [hc, Int.toNat_natCast]
  rw [e]
  simp only [eX0_addParcel_0, eX0_addParcel_1, eX0_addParcel_4, eX0_addParcel_7, eX0_addParcel_8, eX0_addParcel_11, eX0_addParcel_13, eX0_addParcel_16, eX0_addParcel_17, eX0_addParcel_18, eX0_addParcel_21, eX0_addParcel_24, eX0_addParcel_25a, eX0_addParcel_25b, eX0_addParcel_25c, eX0_addParcel_26, eX0_addParcel_27, eX0_addParcel_30, eX0_addParcel_31, eX0_addParcel_34, eX0_addParcel_35, eX0_addParcel_36, eX0_addParcel_37, eX0_addParcel_40, eX0_addParcel_41, eX0_addParcel_44, eX0_addParcel_45, eX0_addParcel_46, eX0_addParcel_47, eX0_addParcel_50, eX0_addParcel_51, eX0_addParcel_54, eX0_addParcel_55, eX0_addParcel_56, eX0_addParcel_57, eX0_addParcel_60, eX0_addParcel_61, eX0_addParcel_64, eX0_addParcel_66, eX0_addParcel_67, eX0_addParcel_68, eX0_addParcel_71, eX0_addParcel_72, eX0_addParcel_75, eX0_addParcel_76, eX0_addParcel_77, eX0_addParcel_78, eX0_addParcel_78r, eX0_addParcel_79, eX0_addParcel_82, eX0_addParcel_83, eX0_addParcel_84, eX0_addParcel_87, eX0_addParcel_88a, eX0_addParcel_88b, eX0_addParcel_88c, evb_some, evm_some, evc_some, evc_none, gd, if_true, if_false, eq_self, and_self, and_true, true_and, ne_eq, not_false_eq_true, or_true, true_or, fd0, fd1, fd2, fd3, fd4, fd5, fd6, fd7, fd8, fd9, fd10, fd11, fd12, ad1, ad2, ad3, ad4, ad5, ad6, ad7, ad8, ad9, ad10, pd1, pd2, pd3, pd4, pd5, pd6, pd7, pd8, pd9, pd10, fp0, fp1, fp2, setS_1, setS_2, setL_1, setL_2, Nat.reduceEqDiff, ↓reduceIte, List.length_set, l6, l7, l8, l9, l10, hc, c8, if_neg q1, if_pos q2, hP, show ¬ (1 : Int) = 0 by decide]
theorem T0_addParcelN {p v : Int} (h : ¬ (d.1 1 < 8 ∧ 0 ≤ p ∧ p < d.1 0)) (h0 : 0 ≤ d.1 1) : ev X m_X0_addParcel 0 [vR B, vI p, vI v] [] (dput mem B d) = some (some (vI 0), dput mem B d) := by
  have q1 : ¬ d.1 1 < 0 := by omega
  by_cases q2 : d.1 1 < 8
  · have hP := T0_hasPersonN (X := X) (mem := mem) (B := B) (p := p) (d := d) (by omega)
    simp only [eX0_addParcel_0, eX0_addParcel_1, eX0_addParcel_4, eX0_addParcel_7, eX0_addParcel_8, eX0_addParcel_11, eX0_addParcel_13, eX0_addParcel_16, eX0_addParcel_17, eX0_addParcel_18, eX0_addParcel_21, eX0_addParcel_24, eX0_addParcel_25a, eX0_addParcel_25b, eX0_addParcel_25c, eX0_addParcel_26, eX0_addParcel_27, eX0_addParcel_30, eX0_addParcel_31, eX0_addParcel_34, eX0_addParcel_35, eX0_addParcel_36, eX0_addParcel_37, eX0_addParcel_40, eX0_addParcel_41, eX0_addParcel_44, eX0_addParcel_45, eX0_addParcel_46, eX0_addParcel_47, eX0_addParcel_50, eX0_addParcel_51, eX0_addParcel_54, eX0_addParcel_55, eX0_addParcel_56, eX0_addParcel_57, eX0_addParcel_60, eX0_addParcel_61, eX0_addParcel_64, eX0_addParcel_66, eX0_addParcel_67, eX0_addParcel_68, eX0_addParcel_71, eX0_addParcel_72, eX0_addParcel_75, eX0_addParcel_76, eX0_addParcel_77, eX0_addParcel_78, eX0_addParcel_78r, eX0_addParcel_79, eX0_addParcel_82, eX0_addParcel_83, eX0_addParcel_84, eX0_addParcel_87, eX0_addParcel_88a, eX0_addParcel_88b, eX0_addParcel_88c, evb_some, evm_some, evc_some, evc_none, gd, if_true, if_false, eq_self, and_self, and_true, true_and, ne_eq, not_false_eq_true, or_true, true_or, fd0, fd1, fd2, fd3, fd4, fd5, fd6, fd7, fd8, fd9, fd10, fd11, fd12, if_neg q1, if_pos q2, hP]
  · simp only [eX0_addParcel_0, eX0_addParcel_1, eX0_addParcel_4, eX0_addParcel_7, eX0_addParcel_8, eX0_addParcel_11, eX0_addParcel_13, eX0_addParcel_16, eX0_addParcel_17, eX0_addParcel_18, eX0_addParcel_21, eX0_addParcel_24, eX0_addParcel_25a, eX0_addParcel_25b, eX0_addParcel_25c, eX0_addParcel_26, eX0_addParcel_27, eX0_addParcel_30, eX0_addParcel_31, eX0_addParcel_34, eX0_addParcel_35, eX0_addParcel_36, eX0_addParcel_37, eX0_addParcel_40, eX0_addParcel_41, eX0_addParcel_44, eX0_addParcel_45, eX0_addParcel_46, eX0_addParcel_47, eX0_addParcel_50, eX0_addParcel_51, eX0_addParcel_54, eX0_addParcel_55, eX0_addParcel_56, eX0_addParcel_57, eX0_addParcel_60, eX0_addParcel_61, eX0_addParcel_64, eX0_addParcel_66, eX0_addParcel_67, eX0_addParcel_68, eX0_addParcel_71, eX0_addParcel_72, eX0_addParcel_75, eX0_addParcel_76, eX0_addParcel_77, eX0_addParcel_78, eX0_addParcel_78r, eX0_addParcel_79, eX0_addParcel_82, eX0_addParcel_83, eX0_addParcel_84, eX0_addParcel_87, eX0_addParcel_88a, eX0_addParcel_88b, eX0_addParcel_88c, evb_some, evm_some, evc_some, evc_none, gd, if_true, if_false, eq_self, and_self, and_true, true_and, ne_eq, not_false_eq_true, or_true, true_or, fd0, fd1, fd2, fd3, fd4, fd5, fd6, fd7, fd8, fd9, fd10, fd11, fd12, if_neg q1, if_neg q2]
theorem DW_addP (h : DW d) {p v : Int} (hp : 0 ≤ p ∧ p < d.1 0) (hv : 0 ≤ v ∧ v ≤ 9) (h8 : d.1 1 < 8) : DW (addP d p v) ∧ (addP d p v).1 1 = d.1 1 + 1 ∧ (addP d p v).1 0 = d.1 0 ∧ (addP d p v).1 2 = d.1 2 ∧ ((addP d p v).2 8).getD (d.1 1).toNat 0 = 0 := by
  obtain ⟨⟨l1, l2, l3, l4, l5, l6, l7, l8, l9, l10⟩, h6, hh8, hpl, hg, hh, hz, hcc⟩ := h
  obtain ⟨c, hc⟩ := n2i hh8.1
  have c8 : c < 8 := by omega
  have e1 : (addP d p v).1 1 = d.1 1 + 1 := by
    unfold addP
    rw [setS_1, if_pos rfl, w32_id (by omega) (by omega)]
  have e8 : (addP d p v).2 8 = (d.2 8).set c 0 := by unfold addP; rw [hc, Int.toNat_natCast]; rfl
  have e6 : (addP d p v).2 6 = (d.2 6).set c p := by unfold addP; rw [hc, Int.toNat_natCast]; rfl
  have e7 : (addP d p v).2 7 = (d.2 7).set c v := by unfold addP; rw [hc, Int.toNat_natCast]; rfl
  have e9 : (addP d p v).2 9 = (d.2 9).set c (-9) := by unfold addP; rw [hc, Int.toNat_natCast]; rfl
  have e10 : (addP d p v).2 10 = (d.2 10).set c 0 := by unfold addP; rw [hc, Int.toNat_natCast]; rfl
  refine ⟨⟨⟨l1, l2, l3, l4, l5, by rw [e6, List.length_set]; exact l6, by rw [e7, List.length_set]; exact l7, by rw [e8, List.length_set]; exact l8, by rw [e9, List.length_set]; exact l9, by rw [e10, List.length_set]; exact l10⟩, h6, by rw [e1]; omega, hpl, hg, hh, hz, fun e he => ?_⟩, e1, rfl, rfl, ?_⟩
  · rw [e1] at he
    rw [e6, e7, e8, e9, e10, getD_set (by omega), getD_set (by omega), getD_set (by omega), getD_set (by omega), getD_set (by omega)]
    show (0 ≤ _ ∧ _ < d.1 0) ∧ _ ∧ (_ → (0 ≤ _ ∧ _ < d.1 0) ∧ _)
    by_cases q : e = c
    · simp only [if_pos q]
      exact ⟨hp, hv, fun z => absurd z (by decide)⟩
    · simp only [if_neg q]
      exact hcc e (by omega)
  · rw [e8, hc, Int.toNat_natCast, getD_eq (by omega)]
theorem T0_addPerson (hL : DL d) (h0 : 0 ≤ d.1 0) {k f p : Int} (h6 : d.1 0 < 6) (hp : p ≤ 30) : ev X m_X0_addPerson 0 [vR B, vI k, vI f, vI p] [] (dput mem B d) = some (some (vI 1), dput mem B (setS (setL (setL (setL (setL d 1 ((d.2 1).set (d.1 0).toNat k)) 2 ((d.2 2).set (d.1 0).toNat f)) 3 ((d.2 3).set (d.1 0).toNat p)) 4 ((d.2 4).set (d.1 0).toNat 0)) 0 (w32 (d.1 0 + 1)))) := by
  obtain ⟨l1, l2, l3, l4, l5, l6, l7, l8, l9, l10⟩ := hL
  obtain ⟨c, hc⟩ := n2i h0
  have c8 : c < 6 := by omega
  have q1 : ¬ (c : Int) < 0 := by omega
  have q2 : (c : Int) < 6 := by omega
  have q3 : ¬ 30 < p := by omega
  simp only [eX0_addPerson_0, eX0_addPerson_1, eX0_addPerson_4, eX0_addPerson_7, eX0_addPerson_8, eX0_addPerson_11, eX0_addPerson_13, eX0_addPerson_16, eX0_addPerson_17, eX0_addPerson_19, eX0_addPerson_22, eX0_addPerson_23a, eX0_addPerson_23b, eX0_addPerson_23c, eX0_addPerson_24, eX0_addPerson_25, eX0_addPerson_28, eX0_addPerson_29, eX0_addPerson_32, eX0_addPerson_33, eX0_addPerson_34, eX0_addPerson_35, eX0_addPerson_38, eX0_addPerson_39, eX0_addPerson_42, eX0_addPerson_43, eX0_addPerson_44, eX0_addPerson_45, eX0_addPerson_48, eX0_addPerson_49, eX0_addPerson_52, eX0_addPerson_53, eX0_addPerson_54, eX0_addPerson_55, eX0_addPerson_58, eX0_addPerson_59, eX0_addPerson_62, eX0_addPerson_63, eX0_addPerson_64, eX0_addPerson_65, eX0_addPerson_65r, eX0_addPerson_66, eX0_addPerson_69, eX0_addPerson_70, eX0_addPerson_71, eX0_addPerson_74, eX0_addPerson_75a, eX0_addPerson_75b, eX0_addPerson_75c, evb_some, evm_some, evc_some, evc_none, gd, if_true, if_false, eq_self, and_self, and_true, true_and, ne_eq, not_false_eq_true, or_true, true_or, fd0, fd1, fd2, fd3, fd4, fd5, fd6, fd7, fd8, fd9, fd10, fd11, fd12, ad1, ad2, ad3, ad4, ad5, ad6, ad7, ad8, ad9, ad10, pd1, pd2, pd3, pd4, pd5, pd6, pd7, pd8, pd9, pd10, fp0, fp1, fp2, setS_1, setS_2, setL_1, setL_2, Nat.reduceEqDiff, ↓reduceIte, List.length_set, l1, l2, l3, l4, hc, c8, if_neg q1, if_pos q2, if_neg q3, Int.toNat_natCast]
theorem T0_addPersonN (h0 : 0 ≤ d.1 0) {k f p : Int} (h6 : ¬ (d.1 0 < 6 ∧ p ≤ 30)) : ev X m_X0_addPerson 0 [vR B, vI k, vI f, vI p] [] (dput mem B d) = some (some (vI 0), dput mem B d) := by
  have q1 : ¬ d.1 0 < 0 := by omega
  by_cases q2 : d.1 0 < 6
  · have q3 : 30 < p := by omega
    simp only [eX0_addPerson_0, eX0_addPerson_1, eX0_addPerson_4, eX0_addPerson_7, eX0_addPerson_8, eX0_addPerson_11, eX0_addPerson_13, eX0_addPerson_16, eX0_addPerson_17, eX0_addPerson_19, eX0_addPerson_22, eX0_addPerson_23a, eX0_addPerson_23b, eX0_addPerson_23c, eX0_addPerson_24, eX0_addPerson_25, eX0_addPerson_28, eX0_addPerson_29, eX0_addPerson_32, eX0_addPerson_33, eX0_addPerson_34, eX0_addPerson_35, eX0_addPerson_38, eX0_addPerson_39, eX0_addPerson_42, eX0_addPerson_43, eX0_addPerson_44, eX0_addPerson_45, eX0_addPerson_48, eX0_addPerson_49, eX0_addPerson_52, eX0_addPerson_53, eX0_addPerson_54, eX0_addPerson_55, eX0_addPerson_58, eX0_addPerson_59, eX0_addPerson_62, eX0_addPerson_63, eX0_addPerson_64, eX0_addPerson_65, eX0_addPerson_65r, eX0_addPerson_66, eX0_addPerson_69, eX0_addPerson_70, eX0_addPerson_71, eX0_addPerson_74, eX0_addPerson_75a, eX0_addPerson_75b, eX0_addPerson_75c, evb_some, evm_some, evc_some, evc_none, gd, if_true, if_false, eq_self, and_self, and_true, true_and, ne_eq, not_false_eq_true, or_true, true_or, fd0, fd1, fd2, fd3, fd4, fd5, fd6, fd7, fd8, fd9, fd10, fd11, fd12, if_neg q1, if_pos q2, if_pos q3]
  · simp only [eX0_addPerson_0, eX0_addPerson_1, eX0_addPerson_4, eX0_addPerson_7, eX0_addPerson_8, eX0_addPerson_11, eX0_addPerson_13, eX0_addPerson_16, eX0_addPerson_17, eX0_addPerson_19, eX0_addPerson_22, eX0_addPerson_23a, eX0_addPerson_23b, eX0_addPerson_23c, eX0_addPerson_24, eX0_addPerson_25, eX0_addPerson_28, eX0_addPerson_29, eX0_addPerson_32, eX0_addPerson_33, eX0_addPerson_34, eX0_addPerson_35, eX0_addPerson_38, eX0_addPerson_39, eX0_addPerson_42, eX0_addPerson_43, eX0_addPerson_44, eX0_addPerson_45, eX0_addPerson_48, eX0_addPerson_49, eX0_addPerson_52, eX0_addPerson_53, eX0_addPerson_54, eX0_addPerson_55, eX0_addPerson_58, eX0_addPerson_59, eX0_addPerson_62, eX0_addPerson_63, eX0_addPerson_64, eX0_addPerson_65, eX0_addPerson_65r, eX0_addPerson_66, eX0_addPerson_69, eX0_addPerson_70, eX0_addPerson_71, eX0_addPerson_74, eX0_addPerson_75a, eX0_addPerson_75b, eX0_addPerson_75c, evb_some, evm_some, evc_some, evc_none, gd, if_true, if_false, eq_self, and_self, and_true, true_and, ne_eq, not_false_eq_true, or_true, true_or, fd0, fd1, fd2, fd3, fd4, fd5, fd6, fd7, fd8, fd9, fd10, fd11, fd12, if_neg q1, if_neg q2]
/-- behind how many days a PARCEL is BROUGHT first; 100: not within so many -/
def tbL (c : Nat) : Nat → Nat → ST → Nat
  | 0, _, _ => 100
  | n + 1, k, d => if (d.2 8).getD c 0 = 2 then k else tbL c n (k + 1) (pday false d)
def whS (d : ST) (c : Nat) : Nat := tbL c 100 0 d
theorem tbL_b (c : Nat) : ∀ n k d, k + n ≤ 100 → tbL c n k d ≤ 100 ∧ (tbL c n k d = 100 ∨ tbL c n k d < k + n) ∧ (k ≤ tbL c n k d)
  | 0, k, d, h => ⟨Nat.le_refl _, Or.inl rfl, by show k ≤ 100; omega⟩
  | n + 1, k, d, h => by
    unfold tbL
    split
    · omega
    · have h1 := tbL_b c n (k + 1) (pday false d) (by omega)
      omega
theorem T4_dtb (h : DW d) {c : Nat} (hc : (c : Int) < d.1 1) {m : Nat} (hm : m ≤ 99) {z : AV} : ∃ d', DW d' ∧ ev X m_X4_daysTillBrought 0 [vR B, vI (c : Int), vI (m : Int), z] [] (dput mem B d) = some (some (vI ((tbL c (m + 1) 0 d : Nat) : Int)), dput mem B d') := by
  have key : ∀ (n k : Nat) (d : ST), DW d → (c : Int) < d.1 1 → k + n = m + 1 → ∃ d', DW d' ∧ ev X m_X4_daysTillBrought 2 [vR B, vI (c : Int), vI (m : Int), vI (k : Int)] [] (dput mem B d) = some (some (vI ((tbL c n k d : Nat) : Int)), dput mem B d') := by
    intro n
    induction n with
    | zero =>
      intro k d h hc hk
      have c1 : (m : Int) < (k : Int) := by omega
      refine ⟨d, h, ?_⟩
      rw [eX4_daysTillBrought_2]
      simp only [eX4_daysTillBrought_0, eX4_daysTillBrought_1, eX4_daysTillBrought_3, eX4_daysTillBrought_4, eX4_daysTillBrought_7, eX4_daysTillBrought_8, eX4_daysTillBrought_9, eX4_daysTillBrought_12, eX4_daysTillBrought_13, eX4_daysTillBrought_16, eX4_daysTillBrought_17, eX4_daysTillBrought_18, eX4_daysTillBrought_19, eX4_daysTillBrought_20, eX4_daysTillBrought_23, eX4_daysTillBrought_26, eX4_daysTillBrought_29, eX4_daysTillBrought_31, evb_some, evm_some, evc_some, evc_none, gd, if_true, if_false, eq_self, and_self, and_true, true_and, ne_eq, not_false_eq_true, or_true, true_or, if_pos c1, tbL]
      rfl
    | succ n ih =>
      intro k d h hc hk
      have c1 : ¬ (m : Int) < (k : Int) := by omega
      have hs := T0_stateOf (X := X) (mem := mem) (B := B) h.1 hc h.2.2.1.2
      by_cases q : (d.2 8).getD c 0 = 2
      · refine ⟨d, h, ?_⟩
        rw [eX4_daysTillBrought_2, tbL, if_pos q]
        simp only [eX4_daysTillBrought_0, eX4_daysTillBrought_1, eX4_daysTillBrought_3, eX4_daysTillBrought_4, eX4_daysTillBrought_7, eX4_daysTillBrought_8, eX4_daysTillBrought_9, eX4_daysTillBrought_12, eX4_daysTillBrought_13, eX4_daysTillBrought_16, eX4_daysTillBrought_17, eX4_daysTillBrought_18, eX4_daysTillBrought_19, eX4_daysTillBrought_20, eX4_daysTillBrought_23, eX4_daysTillBrought_26, eX4_daysTillBrought_29, eX4_daysTillBrought_31, evb_some, evm_some, evc_some, evc_none, gd, if_true, if_false, eq_self, and_self, and_true, true_and, ne_eq, not_false_eq_true, or_true, true_or, if_neg c1, hs, if_pos q]
      · have hp := T0_passDay (X := X) (mem := mem) (B := B) h false
        simp only [Bool.false_eq_true, if_false] at hp
        obtain ⟨d', h1, h2⟩ := ih (k + 1) (pday false d) (pday_ok h false).1 (by rw [(pday_ok h false).2.2.1]; exact hc) (by omega)
        refine ⟨d', h1, ?_⟩
        rw [eX4_daysTillBrought_2, tbL, if_neg q]
        simp only [eX4_daysTillBrought_0, eX4_daysTillBrought_1, eX4_daysTillBrought_3, eX4_daysTillBrought_4, eX4_daysTillBrought_7, eX4_daysTillBrought_8, eX4_daysTillBrought_9, eX4_daysTillBrought_12, eX4_daysTillBrought_13, eX4_daysTillBrought_16, eX4_daysTillBrought_17, eX4_daysTillBrought_18, eX4_daysTillBrought_19, eX4_daysTillBrought_20, eX4_daysTillBrought_23, eX4_daysTillBrought_26, eX4_daysTillBrought_29, eX4_daysTillBrought_31, evb_some, evm_some, evc_some, evc_none, gd, if_true, if_false, eq_self, and_self, and_true, true_and, ne_eq, not_false_eq_true, or_true, true_or, if_neg c1, hs, if_neg q, hp, w32_k1 (show k < 2147483647 by omega), h2]
  obtain ⟨d', h1, h2⟩ := key (m + 1) 0 d h hc (by omega)
  exact ⟨d', h1, Eq.trans (by simp only [eX4_daysTillBrought_0, eX4_daysTillBrought_1]; rfl) h2⟩
theorem T4_dayOrNone {k : Nat} {M : AM} : ev X m_X4_dayOrNone 0 [vI (k : Int)] [] M = some (some (vI (if k < 100 then (k : Int) else -9)), M) := by
  by_cases q : k < 100
  · simp only [eX4_dayOrNone_0, eX4_dayOrNone_1, eX4_dayOrNone_3, eX4_dayOrNone_6, eX4_dayOrNone_7, eX4_dayOrNone_10, eX4_dayOrNone_12, evb_some, evm_some, evc_some, evc_none, gd, if_true, if_false, eq_self, and_self, and_true, true_and, ne_eq, not_false_eq_true, or_true, true_or, if_pos (show (k : Int) < 100 by omega), if_pos q]
  · simp only [eX4_dayOrNone_0, eX4_dayOrNone_1, eX4_dayOrNone_3, eX4_dayOrNone_6, eX4_dayOrNone_7, eX4_dayOrNone_10, eX4_dayOrNone_12, evb_some, evm_some, evc_some, evc_none, gd, if_true, if_false, eq_self, and_self, and_true, true_and, ne_eq, not_false_eq_true, or_true, true_or, if_neg (show ¬ (k : Int) < 100 by omega), if_neg q]
theorem T4_asTold {p : Int} {M : AM} : ev X m_X4_asTold 0 [vI p] [] M = some (some (vI (if p < 0 then 9 else p)), M) := by
  simp only [eX4_asTold_0, eX4_asTold_1, eX4_asTold_4, eX4_asTold_6, eX4_asTold_9, eX4_asTold_10, evb_some, evm_some, evc_some, evc_none, gd, if_true, if_false, eq_self, and_self, and_true, true_and, ne_eq, not_false_eq_true, or_true, true_or]
  (repeat' split) <;> first | rfl | omega
/-- the reference's -/
def gTh (g d : ST) : ST := gG g (kA (g.2 5) 206 d) 0 309
def gC (g : ST) (d : ST) : ST := gG g (kA (g.2 5) 103 d) 1 206
theorem T5_thinks (hL : DL d) (hl : (g.2 5).length = 309) : ev X m_X5_thinks 0 [vR 53] [] (mpt mem g d) = some (none, mpt mem (gG g (kA (g.2 5) 206 d) 1 309) d) := by
  simp only [eX5_thinks_0, eX5_thinks_1, eX5_thinks_2, eX5_thinks_3, eX5_thinks_6, evb_some, evm_some, evc_some, evc_none, gd, if_true, if_false, eq_self, and_self, and_true, true_and, ne_eq, not_false_eq_true, or_true, true_or, mg, mf0, mf1, mf2, mf3, mf4, mf5, mf6, mf7, mf8, mf9, mf10, mf11, mf12, mf13, mf14, mf15, mf16, mf17, mf18, mf19, mf20, mf21, mf22, mf23, mf24, mf25, mf26, mf27, T5_keep2 hL hl]
theorem T5_changes (hL : DL d) (hl : (g.2 5).length = 309) : ev X m_X5_changes 0 [vR 53] [] (mpt mem g d) = some (none, mpt mem (gC g d) d) := by
  simp only [eX5_changes_0, eX5_changes_1, eX5_changes_2, eX5_changes_3, eX5_changes_6, evb_some, evm_some, evc_some, evc_none, gd, if_true, if_false, eq_self, and_self, and_true, true_and, ne_eq, not_false_eq_true, or_true, true_or, mg, mf0, mf1, mf2, mf3, mf4, mf5, mf6, mf7, mf8, mf9, mf10, mf11, mf12, mf13, mf14, mf15, mf16, mf17, mf18, mf19, mf20, mf21, mf22, mf23, mf24, mf25, mf26, mf27, T5_keep1 hL hl, gC]
theorem T5_forgets {d0 : ST} (hL : DL d) (hL0 : DL d0) (hl : (g.2 5).length = 309) : ev X m_X5_forgets 0 [vR 53] [] (mpt mem (gG g (kA (g.2 5) 206 d0) 1 309) d) = some (none, mpt mem (gTh g d0) d0) := by
  have h := T5_back2 (X := X) (mem := mem) (g := gG g (kA (g.2 5) 206 d0) 1 309) hL hL0 (by rw [gG_k, kA_len]; exact hl) (by rw [gG_k]; exact kA_KB _ hl 206 (by decide))
  rw [gG_k, gG_gG] at h
  simp only [eX5_forgets_0, eX5_forgets_1, eX5_forgets_2, eX5_forgets_3, eX5_forgets_6, evb_some, evm_some, evc_some, evc_none, gd, if_true, if_false, eq_self, and_self, and_true, true_and, ne_eq, not_false_eq_true, or_true, true_or, mg, mf0, mf1, mf2, mf3, mf4, mf5, mf6, mf7, mf8, mf9, mf10, mf11, mf12, mf13, mf14, mf15, mf16, mf17, mf18, mf19, mf20, mf21, mf22, mf23, mf24, mf25, mf26, mf27, h, gTh]
theorem T5_changesBack {d0 g2 : ST} (hL : DL d) (hL0 : DL d0) (hl : (g2.2 5).length = 309) (hk : KB (g2.2 5) 103 d0) : ev X m_X5_changesBack 0 [vR 53] [] (mpt mem g2 d) = some (none, mpt mem (gG g2 (g2.2 5) 0 206) d0) := by
  have h := T5_back1 (X := X) (mem := mem) (g := g2) hL hL0 hl hk
  simp only [eX5_changesBack_0, eX5_changesBack_1, eX5_changesBack_2, eX5_changesBack_3, eX5_changesBack_6, evb_some, evm_some, evc_some, evc_none, gd, if_true, if_false, eq_self, and_self, and_true, true_and, ne_eq, not_false_eq_true, or_true, true_or, mg, mf0, mf1, mf2, mf3, mf4, mf5, mf6, mf7, mf8, mf9, mf10, mf11, mf12, mf13, mf14, mf15, mf16, mf17, mf18, mf19, mf20, mf21, mf22, mf23, mf24, mf25, mf26, mf27, h]
/-- the reference's rest is the same, but for the kept row from a block on -/
def GQ (g g' : ST) (b : Nat) : Prop := (∀ k, k ≠ 4 → k ≠ 5 → g'.1 k = g.1 k) ∧ (∀ k, k ≠ 5 → g'.2 k = g.2 k) ∧ (g'.2 5).length = 309 ∧ ∀ j, j < b → (g'.2 5).getD j 0 = (g.2 5).getD j 0
theorem GQ_rfl {b : Nat} (hl : (g.2 5).length = 309) : GQ g g b := ⟨fun _ _ _ => rfl, fun _ _ => rfl, hl, fun _ _ => rfl⟩
theorem GQ_trans {g1 g2 g3 : ST} {b : Nat} (h1 : GQ g1 g2 b) (h2 : GQ g2 g3 b) : GQ g1 g3 b :=
  ⟨fun k a c => (h2.1 k a c).trans (h1.1 k a c), fun k a => (h2.2.1 k a).trans (h1.2.1 k a), h2.2.2.1, fun j hj => (h2.2.2.2 j hj).trans (h1.2.2.2 j hj)⟩
theorem GQ_le {g g' : ST} {b c : Nat} (h : GQ g g' b) (hc : c ≤ b) : GQ g g' c := ⟨h.1, h.2.1, h.2.2.1, fun j hj => h.2.2.2 j (by omega)⟩
theorem GQ_gG {l : List Int} {m : Int} {c b : Nat} (hl : l.length = 309) (h : ∀ j, j < b → l.getD j 0 = (g.2 5).getD j 0) : GQ g (gG g l m c) b := by
  refine ⟨fun k h4 h5 => ?_, fun k h5 => ?_, hl, h⟩
  · unfold gG
    rw [setS_1, if_neg h5, setS_1, if_neg h4, setL_1]
  · unfold gG
    rw [setS_2, setS_2, setL_2, if_neg h5]
theorem GQ_gTh (hl : (g.2 5).length = 309) : GQ g (gTh g d) 206 := by
  unfold gTh
  exact GQ_gG (by rw [kA_len]; exact hl) (fun j hj => kA_out _ hl 206 (by decide) j (Or.inl hj))
theorem GQ_gC (hl : (g.2 5).length = 309) : GQ g (gC g d) 103 := by
  unfold gC
  exact GQ_gG (by rw [kA_len]; exact hl) (fun j hj => kA_out _ hl 103 (by decide) j (Or.inl hj))
theorem KB_gC (hl : (g.2 5).length = 309) : KB ((gC g d).2 5) 103 d := by
  unfold gC
  rw [gG_k]
  exact kA_KB _ hl 103 (by decide)
theorem KB_GQ {g g' e : ST} (h : GQ g g' 206) (hk : KB (g.2 5) 103 e) : KB (g'.2 5) 103 e := KB_of hk (fun j _ h2 => h.2.2.2 j (by omega))
theorem T5_whenOf (h : DW d) (hl : (g.2 5).length = 309) {c : Nat} (hc : (c : Int) < d.1 1) {y1 y2 : AV} : ev X m_X5_whenOf 0 [vR 53, vI (c : Int), y1, y2] [] (mpt mem g d) = some (some (vI (if whS d c = 100 then -9 else ((whS d c : Nat) : Int))), mpt mem (gTh g d) d) := by
  have key : ∀ (m k : Nat) (e : ST), DW e → (c : Int) < e.1 1 → k + m = 100 → ∃ e' z, DW e' ∧ ev X m_X5_whenOf 9 [vR 53, vI (c : Int), vI (-9), vI (k : Int)] [] (mpt mem (gG g (kA (g.2 5) 206 d) 1 309) e) = ev X m_X5_whenOf 47 [vR 53, vI (c : Int), vI (if tbL c m k e = 100 then -9 else ((tbL c m k e : Nat) : Int)), z] [] (mpt mem (gG g (kA (g.2 5) 206 d) 1 309) e') := by
    intro m
    induction m with
    | zero =>
      intro k e he hce hk
      have c1 : (99 : Int) < (k : Int) := by omega
      refine ⟨e, vI (k : Int), he, ?_⟩
      rw [eX5_whenOf_9]
      simp only [eX5_whenOf_0, eX5_whenOf_1, eX5_whenOf_4, eX5_whenOf_6, eX5_whenOf_7, eX5_whenOf_8, eX5_whenOf_10, eX5_whenOf_12, eX5_whenOf_15, eX5_whenOf_16, eX5_whenOf_19, eX5_whenOf_20, eX5_whenOf_23, eX5_whenOf_24, eX5_whenOf_25, eX5_whenOf_26, eX5_whenOf_29, eX5_whenOf_30, eX5_whenOf_33, eX5_whenOf_35, eX5_whenOf_36, eX5_whenOf_37, eX5_whenOf_38, eX5_whenOf_41, eX5_whenOf_44, evb_some, evm_some, evc_some, evc_none, gd, if_true, if_false, eq_self, and_self, and_true, true_and, ne_eq, not_false_eq_true, or_true, true_or, if_pos c1, tbL]
    | succ m ih =>
      intro k e he hce hk
      have c1 : ¬ (99 : Int) < (k : Int) := by omega
      have c8 : c < 8 := by have := he.2.2.1; omega
      have l8 : (e.2 8).length = 8 := he.1.2.2.2.2.2.2.2.1
      have hp := T5_goesDay0 (X := X) (mem := mem) (g := gG g (kA (g.2 5) 206 d) 1 309) (y1 := vS) he
      by_cases q : (e.2 8).getD c 0 = 2
      · refine ⟨pday false e, vI ((k + 1 : Nat) : Int), (pday_ok he false).1, ?_⟩
        rw [eX5_whenOf_9, tbL, if_pos q, if_neg (show ¬ k = 100 by omega)]
        simp only [eX5_whenOf_0, eX5_whenOf_1, eX5_whenOf_4, eX5_whenOf_6, eX5_whenOf_7, eX5_whenOf_8, eX5_whenOf_10, eX5_whenOf_12, eX5_whenOf_15, eX5_whenOf_16, eX5_whenOf_19, eX5_whenOf_20, eX5_whenOf_23, eX5_whenOf_24, eX5_whenOf_25, eX5_whenOf_26, eX5_whenOf_29, eX5_whenOf_30, eX5_whenOf_33, eX5_whenOf_35, eX5_whenOf_36, eX5_whenOf_37, eX5_whenOf_38, eX5_whenOf_41, eX5_whenOf_44, evb_some, evm_some, evc_some, evc_none, gd, if_true, if_false, eq_self, and_self, and_true, true_and, ne_eq, not_false_eq_true, or_true, true_or, mg, mf0, mf1, mf2, mf3, mf4, mf5, mf6, mf7, mf8, mf9, mf10, mf11, mf12, mf13, mf14, mf15, mf16, mf17, mf18, mf19, mf20, mf21, mf22, mf23, mf24, mf25, mf26, mf27, ma54, ma55, ma56, ma57, ma58, ma59, ma60, ma61, ma62, ma63, ma64, ma65, ma66, ma67, ma68, ma69, ma70, ma71, l8, c8, if_neg c1, if_pos q, if_pos (show (-9 : Int) < 0 by decide), hp, w32_k1 (show k < 2147483647 by omega)]
        rw [eX5_whenOf_9]
        by_cases q2 : (99 : Int) < ((k + 1 : Nat) : Int)
        · simp only [eX5_whenOf_0, eX5_whenOf_1, eX5_whenOf_4, eX5_whenOf_6, eX5_whenOf_7, eX5_whenOf_8, eX5_whenOf_10, eX5_whenOf_12, eX5_whenOf_15, eX5_whenOf_16, eX5_whenOf_19, eX5_whenOf_20, eX5_whenOf_23, eX5_whenOf_24, eX5_whenOf_25, eX5_whenOf_26, eX5_whenOf_29, eX5_whenOf_30, eX5_whenOf_33, eX5_whenOf_35, eX5_whenOf_36, eX5_whenOf_37, eX5_whenOf_38, eX5_whenOf_41, eX5_whenOf_44, evb_some, evm_some, evc_some, evc_none, gd, if_true, if_false, eq_self, and_self, and_true, true_and, ne_eq, not_false_eq_true, or_true, true_or, if_pos q2]
        · simp only [eX5_whenOf_0, eX5_whenOf_1, eX5_whenOf_4, eX5_whenOf_6, eX5_whenOf_7, eX5_whenOf_8, eX5_whenOf_10, eX5_whenOf_12, eX5_whenOf_15, eX5_whenOf_16, eX5_whenOf_19, eX5_whenOf_20, eX5_whenOf_23, eX5_whenOf_24, eX5_whenOf_25, eX5_whenOf_26, eX5_whenOf_29, eX5_whenOf_30, eX5_whenOf_33, eX5_whenOf_35, eX5_whenOf_36, eX5_whenOf_37, eX5_whenOf_38, eX5_whenOf_41, eX5_whenOf_44, evb_some, evm_some, evc_some, evc_none, gd, if_true, if_false, eq_self, and_self, and_true, true_and, ne_eq, not_false_eq_true, or_true, true_or, if_neg q2, if_neg (show ¬ (k : Int) < 0 by omega)]
      · obtain ⟨e', z, h1, h2⟩ := ih (k + 1) (pday false e) (pday_ok he false).1 (by rw [(pday_ok he false).2.2.1]; exact hce) (by omega)
        refine ⟨e', z, h1, ?_⟩
        rw [eX5_whenOf_9, tbL, if_neg q]
        simp only [eX5_whenOf_0, eX5_whenOf_1, eX5_whenOf_4, eX5_whenOf_6, eX5_whenOf_7, eX5_whenOf_8, eX5_whenOf_10, eX5_whenOf_12, eX5_whenOf_15, eX5_whenOf_16, eX5_whenOf_19, eX5_whenOf_20, eX5_whenOf_23, eX5_whenOf_24, eX5_whenOf_25, eX5_whenOf_26, eX5_whenOf_29, eX5_whenOf_30, eX5_whenOf_33, eX5_whenOf_35, eX5_whenOf_36, eX5_whenOf_37, eX5_whenOf_38, eX5_whenOf_41, eX5_whenOf_44, evb_some, evm_some, evc_some, evc_none, gd, if_true, if_false, eq_self, and_self, and_true, true_and, ne_eq, not_false_eq_true, or_true, true_or, mg, mf0, mf1, mf2, mf3, mf4, mf5, mf6, mf7, mf8, mf9, mf10, mf11, mf12, mf13, mf14, mf15, mf16, mf17, mf18, mf19, mf20, mf21, mf22, mf23, mf24, mf25, mf26, mf27, ma54, ma55, ma56, ma57, ma58, ma59, ma60, ma61, ma62, ma63, ma64, ma65, ma66, ma67, ma68, ma69, ma70, ma71, l8, c8, if_neg c1, if_neg q, if_pos (show (-9 : Int) < 0 by decide), hp, w32_k1 (show k < 2147483647 by omega), h2]
  obtain ⟨e', z, h1, h2⟩ := key 100 0 d h hc (by omega)
  refine Eq.trans (b := ev X m_X5_whenOf 9 [vR 53, vI (c : Int), vI (-9), vI 0] [] (mpt mem (gG g (kA (g.2 5) 206 d) 1 309) d)) ?_ (h2.trans ?_)
  · simp only [eX5_whenOf_0, eX5_whenOf_1, eX5_whenOf_4, eX5_whenOf_6, eX5_whenOf_7, eX5_whenOf_8, evb_some, evm_some, evc_some, evc_none, gd, if_true, if_false, eq_self, and_self, and_true, true_and, ne_eq, not_false_eq_true, or_true, true_or, mg, mf0, mf1, mf2, mf3, mf4, mf5, mf6, mf7, mf8, mf9, mf10, mf11, mf12, mf13, mf14, mf15, mf16, mf17, mf18, mf19, mf20, mf21, mf22, mf23, mf24, mf25, mf26, mf27, T5_thinks h.1 hl]
  · simp only [eX5_whenOf_47, eX5_whenOf_48, eX5_whenOf_51, eX5_whenOf_52, evb_some, evm_some, evc_some, evc_none, gd, if_true, if_false, eq_self, and_self, and_true, true_and, ne_eq, not_false_eq_true, or_true, true_or, mg, mf0, mf1, mf2, mf3, mf4, mf5, mf6, mf7, mf8, mf9, mf10, mf11, mf12, mf13, mf14, mf15, mf16, mf17, mf18, mf19, mf20, mf21, mf22, mf23, mf24, mf25, mf26, mf27, T5_forgets h1.1 h.1 hl, whS]
    rfl
def lat (d : ST) (c : Nat) : Int := if whS d c = 100 then 1000 else ((whS d c : Nat) : Int)
theorem T5_lateOf (h : DW d) (hl : (g.2 5).length = 309) {c : Nat} (hc : (c : Int) < d.1 1) {y1 : AV} : ev X m_X5_lateOf 0 [vR 53, vI (c : Int), y1] [] (mpt mem g d) = some (some (vI (lat d c)), mpt mem (gTh g d) d) := by
  have hw := T5_whenOf (X := X) (mem := mem) (y1 := vS) (y2 := vS) h hl hc
  unfold lat
  by_cases q : whS d c = 100
  · rw [if_pos q] at hw ⊢
    simp only [eX5_lateOf_0, eX5_lateOf_1, eX5_lateOf_2, eX5_lateOf_5, eX5_lateOf_6, eX5_lateOf_7, eX5_lateOf_10, eX5_lateOf_13, eX5_lateOf_16, eX5_lateOf_17, evb_some, evm_some, evc_some, evc_none, gd, if_true, if_false, eq_self, and_self, and_true, true_and, ne_eq, not_false_eq_true, or_true, true_or, mg, mf0, mf1, mf2, mf3, mf4, mf5, mf6, mf7, mf8, mf9, mf10, mf11, mf12, mf13, mf14, mf15, mf16, mf17, mf18, mf19, mf20, mf21, mf22, mf23, mf24, mf25, mf26, mf27, hw, if_pos (show (-9 : Int) < 0 by decide)]
  · rw [if_neg q] at hw ⊢
    simp only [eX5_lateOf_0, eX5_lateOf_1, eX5_lateOf_2, eX5_lateOf_5, eX5_lateOf_6, eX5_lateOf_7, eX5_lateOf_10, eX5_lateOf_13, eX5_lateOf_16, eX5_lateOf_17, evb_some, evm_some, evc_some, evc_none, gd, if_true, if_false, eq_self, and_self, and_true, true_and, ne_eq, not_false_eq_true, or_true, true_or, mg, mf0, mf1, mf2, mf3, mf4, mf5, mf6, mf7, mf8, mf9, mf10, mf11, mf12, mf13, mf14, mf15, mf16, mf17, mf18, mf19, mf20, mf21, mf22, mf23, mf24, mf25, mf26, mf27, hw, if_neg (show ¬ ((whS d c : Nat) : Int) < 0 by omega)]
end WH
