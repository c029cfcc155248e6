/-! A DAY, THE CLASS'S -/
section DAY
variable {X : List Int} {mem : AM} {B : Nat} {d : ST}
theorem T0_carryOn (h : DW d) {z1 z2 : AV} : ev X m_X0_carryOn 0 [vR B, z1, z2] [] (dput mem B d) = some (none, dput mem B (itr caF (d.1 1).toNat 0 d)) := by
  have key : ∀ (n k : Nat) (d : ST) (z : AV), DW d → k + n = (d.1 1).toNat → ev X m_X0_carryOn 2 [vR B, vI (k : Int), z] [] (dput mem B d) = some (none, dput mem B (itr caF n k d)) := by
    intro n
    induction n with
    | zero =>
      intro k d z h hk
      have c1 : ¬ (k : Int) < d.1 1 := by omega
      rw [eX0_carryOn_2]
      simp only [eX0_carryOn_0, eX0_carryOn_1, eX0_carryOn_3, eX0_carryOn_4, eX0_carryOn_7, eX0_carryOn_10, eX0_carryOn_11, eX0_carryOn_14, eX0_carryOn_15, eX0_carryOn_16, eX0_carryOn_17, eX0_carryOn_20, eX0_carryOn_23, eX0_carryOn_24, eX0_carryOn_27, eX0_carryOn_28, eX0_carryOn_29, eX0_carryOn_30, eX0_carryOn_31, eX0_carryOn_32, eX0_carryOn_33, eX0_carryOn_34, eX0_carryOn_37, eX0_carryOn_38, eX0_carryOn_39, eX0_carryOn_42, eX0_carryOn_45, eX0_carryOn_46, eX0_carryOn_49, eX0_carryOn_50, eX0_carryOn_51, eX0_carryOn_52, eX0_carryOn_53, eX0_carryOn_56, eX0_carryOn_57, eX0_carryOn_58, eX0_carryOn_59, eX0_carryOn_60, eX0_carryOn_63, eX0_carryOn_64, eX0_carryOn_65, eX0_carryOn_66, eX0_carryOn_67, eX0_carryOn_68, eX0_carryOn_71, eX0_carryOn_74, eX0_carryOn_75, eX0_carryOn_78, eX0_carryOn_79, eX0_carryOn_82, eX0_carryOn_83, eX0_carryOn_86, eX0_carryOn_87, eX0_carryOn_88, eX0_carryOn_89, eX0_carryOn_90, eX0_carryOn_93, eX0_carryOn_94, eX0_carryOn_95, eX0_carryOn_96, eX0_carryOn_99, eX0_carryOn_100, eX0_carryOn_101, eX0_carryOn_102, eX0_carryOn_103, eX0_carryOn_106, eX0_carryOn_107, eX0_carryOn_108, eX0_carryOn_109, eX0_carryOn_112, eX0_carryOn_112r, eX0_carryOn_113, eX0_carryOn_116, eX0_carryOn_119, evb_some, evm_some, evc_some, evc_none, gd, if_true, if_false, eq_self, and_self, and_true, true_and, ne_eq, not_false_eq_true, or_true, true_or, fd0, fd1, fd2, fd3, fd4, fd5, fd6, fd7, fd8, fd9, fd10, fd11, fd12, if_neg c1, itr]
    | succ n ih =>
      intro k d z h hk
      have h' := h
      obtain ⟨⟨l1, l2, l3, l4, l5, l6, l7, l8, l9, l10⟩, h6, h8, hp, hg, hh, hz, hcc⟩ := h'
      have c1 : (k : Int) < d.1 1 := by have := h8; omega
      have k8 : k < 8 := by omega
      have ih2 := fun z => ih (k + 1) (caF k d) z (DW_caF h c1) (by rw [caF_1]; omega)
      rw [eX0_carryOn_2]
      by_cases q1 : (d.2 8).getD k 0 = 1
      · obtain ⟨⟨t0, t1⟩, ⟨w0, w1⟩, hb⟩ := hcc k c1
        obtain ⟨⟨b0, b1⟩, b2, b3⟩ := hb q1
        by_cases q2 : 0 < w32 ((d.2 10).getD k 0 - 1)
        · rw [show caF k d = setL d 10 ((d.2 10).set k (w32 ((d.2 10).getD k 0 - 1))) by rw [caF, if_pos q1, if_pos q2]] at ih2
          simp only [eX0_carryOn_0, eX0_carryOn_1, eX0_carryOn_3, eX0_carryOn_4, eX0_carryOn_7, eX0_carryOn_10, eX0_carryOn_11, eX0_carryOn_14, eX0_carryOn_15, eX0_carryOn_16, eX0_carryOn_17, eX0_carryOn_20, eX0_carryOn_23, eX0_carryOn_24, eX0_carryOn_27, eX0_carryOn_28, eX0_carryOn_29, eX0_carryOn_30, eX0_carryOn_31, eX0_carryOn_32, eX0_carryOn_33, eX0_carryOn_34, eX0_carryOn_37, eX0_carryOn_38, eX0_carryOn_39, eX0_carryOn_42, eX0_carryOn_45, eX0_carryOn_46, eX0_carryOn_49, eX0_carryOn_50, eX0_carryOn_51, eX0_carryOn_52, eX0_carryOn_53, eX0_carryOn_56, eX0_carryOn_57, eX0_carryOn_58, eX0_carryOn_59, eX0_carryOn_60, eX0_carryOn_63, eX0_carryOn_64, eX0_carryOn_65, eX0_carryOn_66, eX0_carryOn_67, eX0_carryOn_68, eX0_carryOn_71, eX0_carryOn_74, eX0_carryOn_75, eX0_carryOn_78, eX0_carryOn_79, eX0_carryOn_82, eX0_carryOn_83, eX0_carryOn_86, eX0_carryOn_87, eX0_carryOn_88, eX0_carryOn_89, eX0_carryOn_90, eX0_carryOn_93, eX0_carryOn_94, eX0_carryOn_95, eX0_carryOn_96, eX0_carryOn_99, eX0_carryOn_100, eX0_carryOn_101, eX0_carryOn_102, eX0_carryOn_103, eX0_carryOn_106, eX0_carryOn_107, eX0_carryOn_108, eX0_carryOn_109, eX0_carryOn_112, eX0_carryOn_112r, eX0_carryOn_113, eX0_carryOn_116, eX0_carryOn_119, evb_some, evm_some, evc_some, evc_none, gd, if_true, if_false, eq_self, and_self, and_true, true_and, ne_eq, not_false_eq_true, or_true, true_or, fd0, fd1, fd2, fd3, fd4, fd5, fd6, fd7, fd8, fd9, fd10, fd11, fd12, ad1, ad2, ad3, ad4, ad5, ad6, ad7, ad8, ad9, ad10, pd1, pd2, pd3, pd4, pd5, pd6, pd7, pd8, pd9, pd10, setS_1, setS_2, setL_1, setL_2, Nat.reduceEqDiff, ↓reduceIte, List.length_set, l8, l10, k8, if_pos c1, if_pos q1, getD_eq (show k < (d.2 10).length by omega), if_pos q2, w32_k1 (show k < 2147483647 by omega), itr]
          rw [ih2, caF, if_pos q1, if_pos q2]
        · obtain ⟨t, ht⟩ := n2i t0
          obtain ⟨b, hb2⟩ := n2i b0
          have t6 : t < 6 := by omega
          have key2 := hg t t6
          have ha := fun z => T0_addHate (X := X) (mem := mem) (B := B) (d := setL (setL (setL (setL d 10 ((d.2 10).set k (w32 ((d.2 10).getD k 0 - 1)))) 8 ((d.2 8).set k 2)) 10 (((d.2 10).set k (w32 ((d.2 10).getD k 0 - 1))).set k 0)) 4 ((d.2 4).set t (if w32 ((d.2 4).getD t 0 + 1) < 999 then w32 ((d.2 4).getD t 0 + 1) else 999))) (i := b) (j := t) (x := w32 (-(d.2 7).getD k 0)) (z := z) (by unfold DL; simp only [setS_1, setS_2, setL_1, setL_2, Nat.reduceEqDiff, ↓reduceIte, List.length_set, l1, l2, l3, l4, l5, l6, l7, l8, l9, l10, and_self]) h6.2 (show (b : Int) < d.1 0 by omega) (show (t : Int) < d.1 0 by omega) (by omega)
          have e3 : setL (setL (setL (setL d 10 ((d.2 10).set k (w32 ((d.2 10).getD k 0 - 1)))) 8 ((d.2 8).set k 2)) 10 (((d.2 10).set k (w32 ((d.2 10).getD k 0 - 1))).set k 0)) 4 ((d.2 4).set t (if w32 ((d.2 4).getD t 0 + 1) < 999 then w32 ((d.2 4).getD t 0 + 1) else 999)) = setL (setL (setL d 8 ((d.2 8).set k 2)) 10 ((d.2 10).set k 0)) 4 ((d.2 4).set t (if w32 ((d.2 4).getD t 0 + 1) < 999 then w32 ((d.2 4).getD t 0 + 1) else 999)) := by
            refine ST_ext (fun _ => rfl) (fun j => ?_)
            simp only [setL_2, List.set_set]
            (repeat' split) <;> first | rfl | omega
          rw [e3] at ha
          rw [show caF k d = addH (setL (setL (setL d 8 ((d.2 8).set k 2)) 10 ((d.2 10).set k 0)) 4 ((d.2 4).set t (if w32 ((d.2 4).getD t 0 + 1) < 999 then w32 ((d.2 4).getD t 0 + 1) else 999))) b t (w32 (-(d.2 7).getD k 0)) by
            rw [caF, if_pos q1, if_neg q2, ht, hb2, Int.toNat_natCast, Int.toNat_natCast]] at ih2
          have cz : (0 ≤ (t : Int) ∧ (t : Int) < d.1 0) := by omega
          simp only [eX0_carryOn_0, eX0_carryOn_1, eX0_carryOn_3, eX0_carryOn_4, eX0_carryOn_7, eX0_carryOn_10, eX0_carryOn_11, eX0_carryOn_14, eX0_carryOn_15, eX0_carryOn_16, eX0_carryOn_17, eX0_carryOn_20, eX0_carryOn_23, eX0_carryOn_24, eX0_carryOn_27, eX0_carryOn_28, eX0_carryOn_29, eX0_carryOn_30, eX0_carryOn_31, eX0_carryOn_32, eX0_carryOn_33, eX0_carryOn_34, eX0_carryOn_37, eX0_carryOn_38, eX0_carryOn_39, eX0_carryOn_42, eX0_carryOn_45, eX0_carryOn_46, eX0_carryOn_49, eX0_carryOn_50, eX0_carryOn_51, eX0_carryOn_52, eX0_carryOn_53, eX0_carryOn_56, eX0_carryOn_57, eX0_carryOn_58, eX0_carryOn_59, eX0_carryOn_60, eX0_carryOn_63, eX0_carryOn_64, eX0_carryOn_65, eX0_carryOn_66, eX0_carryOn_67, eX0_carryOn_68, eX0_carryOn_71, eX0_carryOn_74, eX0_carryOn_75, eX0_carryOn_78, eX0_carryOn_79, eX0_carryOn_82, eX0_carryOn_83, eX0_carryOn_86, eX0_carryOn_87, eX0_carryOn_88, eX0_carryOn_89, eX0_carryOn_90, eX0_carryOn_93, eX0_carryOn_94, eX0_carryOn_95, eX0_carryOn_96, eX0_carryOn_99, eX0_carryOn_100, eX0_carryOn_101, eX0_carryOn_102, eX0_carryOn_103, eX0_carryOn_106, eX0_carryOn_107, eX0_carryOn_108, eX0_carryOn_109, eX0_carryOn_112, eX0_carryOn_112r, eX0_carryOn_113, eX0_carryOn_116, eX0_carryOn_119, evb_some, evm_some, evc_some, evc_none, gd, if_true, if_false, eq_self, and_self, and_true, true_and, ne_eq, not_false_eq_true, or_true, true_or, fd0, fd1, fd2, fd3, fd4, fd5, fd6, fd7, fd8, fd9, fd10, fd11, fd12, ad1, ad2, ad3, ad4, ad5, ad6, ad7, ad8, ad9, ad10, pd1, pd2, pd3, pd4, pd5, pd6, pd7, pd8, pd9, pd10, setS_1, setS_2, setL_1, setL_2, Nat.reduceEqDiff, ↓reduceIte, List.length_set, T0_hasPersonY, cz, l4, l6, l7, l8, l9, l10, k8, t6, if_pos c1, if_pos q1, getD_eq (show k < (d.2 10).length by omega), if_neg q2, ht, hb2, show ¬ (1 : Int) = 0 by decide, e3, ha, w32_k1 (show k < 2147483647 by omega), itr, ih2]
          rw [caF, if_pos q1, if_neg q2, ht, hb2, Int.toNat_natCast, Int.toNat_natCast]
      · rw [show caF k d = d by rw [caF, if_neg q1]] at ih2
        simp only [eX0_carryOn_0, eX0_carryOn_1, eX0_carryOn_3, eX0_carryOn_4, eX0_carryOn_7, eX0_carryOn_10, eX0_carryOn_11, eX0_carryOn_14, eX0_carryOn_15, eX0_carryOn_16, eX0_carryOn_17, eX0_carryOn_20, eX0_carryOn_23, eX0_carryOn_24, eX0_carryOn_27, eX0_carryOn_28, eX0_carryOn_29, eX0_carryOn_30, eX0_carryOn_31, eX0_carryOn_32, eX0_carryOn_33, eX0_carryOn_34, eX0_carryOn_37, eX0_carryOn_38, eX0_carryOn_39, eX0_carryOn_42, eX0_carryOn_45, eX0_carryOn_46, eX0_carryOn_49, eX0_carryOn_50, eX0_carryOn_51, eX0_carryOn_52, eX0_carryOn_53, eX0_carryOn_56, eX0_carryOn_57, eX0_carryOn_58, eX0_carryOn_59, eX0_carryOn_60, eX0_carryOn_63, eX0_carryOn_64, eX0_carryOn_65, eX0_carryOn_66, eX0_carryOn_67, eX0_carryOn_68, eX0_carryOn_71, eX0_carryOn_74, eX0_carryOn_75, eX0_carryOn_78, eX0_carryOn_79, eX0_carryOn_82, eX0_carryOn_83, eX0_carryOn_86, eX0_carryOn_87, eX0_carryOn_88, eX0_carryOn_89, eX0_carryOn_90, eX0_carryOn_93, eX0_carryOn_94, eX0_carryOn_95, eX0_carryOn_96, eX0_carryOn_99, eX0_carryOn_100, eX0_carryOn_101, eX0_carryOn_102, eX0_carryOn_103, eX0_carryOn_106, eX0_carryOn_107, eX0_carryOn_108, eX0_carryOn_109, eX0_carryOn_112, eX0_carryOn_112r, eX0_carryOn_113, eX0_carryOn_116, eX0_carryOn_119, evb_some, evm_some, evc_some, evc_none, gd, if_true, if_false, eq_self, and_self, and_true, true_and, ne_eq, not_false_eq_true, or_true, true_or, fd0, fd1, fd2, fd3, fd4, fd5, fd6, fd7, fd8, fd9, fd10, fd11, fd12, ad1, ad2, ad3, ad4, ad5, ad6, ad7, ad8, ad9, ad10, l8, k8, if_pos c1, if_neg q1, w32_k1 (show k < 2147483647 by omega), itr, ih2]
        rw [caF, if_neg q1]
  exact Eq.trans (by simp only [eX0_carryOn_0, eX0_carryOn_1]; rfl) (key _ 0 d z2 h (by omega))
/-- a DAY: what is given out -/
def giF (c : Nat) (d : ST) : ST :=
  if (d.2 8).getD c 0 = 0 then
    if 0 ≤ ene d ((d.2 6).getD c 0).toNat (-9) then
      if car d (ene d ((d.2 6).getD c 0).toNat (-9)) = true then d
      else setL (setL (setL d 8 ((d.2 8).set c 1)) 9 ((d.2 9).set c (ene d ((d.2 6).getD c 0).toNat (-9)))) 10 ((d.2 10).set c (dor (apt d (ene d ((d.2 6).getD c 0).toNat (-9)).toNat ((d.2 6).getD c 0).toNat) ((d.2 1).getD (ene d ((d.2 6).getD c 0).toNat (-9)).toNat 0)))
    else d
  else d
theorem giF_1 (c : Nat) (d : ST) : (giF c d).1 = d.1 := by
  unfold giF setL
  (repeat' split) <;> rfl
theorem giF_6 (c : Nat) (d : ST) : ∀ k, k < 8 → (giF c d).2 k = d.2 k := by
  intro k hk
  unfold giF setL
  (repeat' split) <;> first | rfl | (dsimp only; simp only [show ¬ k = 8 by omega, show ¬ k = 9 by omega, show ¬ k = 10 by omega, if_false])
theorem DW_giF (h : DW d) {c : Nat} (hc : (c : Int) < d.1 1) : DW (giF c d) := by
  have h' := h
  obtain ⟨⟨l1, l2, l3, l4, l5, l6, l7, l8, l9, l10⟩, h6, h8, hp, hg, hh, hz, hcc⟩ := h
  have c8 : c < 8 := by omega
  obtain ⟨⟨t0, t1⟩, -, -⟩ := hcc c hc
  unfold giF
  split
  · split
    · split
      · exact h'
      · rename_i h1 h2 h3
        rcases ene_spec d h6.1 ((d.2 6).getD c 0).toNat (-9) with q | ⟨q1, q2, q3, q4, q5⟩
        · omega
        · have hd := dor_b (k := (d.2 1).getD (ene d ((d.2 6).getD c 0).toNat (-9)).toNat 0) (apt_b h' (show (ene d ((d.2 6).getD c 0).toNat (-9)).toNat < 6 by omega) (show ((d.2 6).getD c 0).toNat < 6 by omega))
          refine ⟨⟨l1, l2, l3, l4, l5, l6, l7, by rw [setL_2, if_neg (by decide), setL_2, if_neg (by decide), setL_2, if_pos rfl, List.length_set]; exact l8, by rw [setL_2, if_neg (by decide), setL_2, if_pos rfl, List.length_set]; exact l9, by rw [setL_2, if_pos rfl, List.length_set]; exact l10⟩, h6, h8, hp, hg, hh, hz, fun e he => ?_⟩
          obtain ⟨r1, r2, r3⟩ := hcc e he
          refine ⟨r1, r2, fun z => ?_⟩
          rw [setL_2, if_neg (by decide), setL_2, if_neg (by decide), setL_2, if_pos rfl, getD_set (by rw [l8]; exact c8)] at z
          simp only [setS_1, setS_2, setL_1, setL_2, Nat.reduceEqDiff, ↓reduceIte, List.length_set]
          rw [getD_set (by rw [l9]; exact c8), getD_set (by rw [l10]; exact c8)]
          show (0 ≤ (if e = c then _ else _) ∧ _) ∧ (if e = c then _ else _) ≠ (d.2 6).getD e 0 ∧ _
          split at z
          · rename_i hec
            rw [if_pos hec, if_pos hec, hec]
            exact ⟨⟨q1, q2⟩, by omega, hd⟩
          · rename_i hec
            rw [if_neg hec, if_neg hec]
            exact r3 z
    · exact h'
  · exact h'
theorem T0_giveOut (h : DW d) {z1 z2 : AV} : ev X m_X0_giveOut 0 [vR B, z1, z2] [] (dput mem B d) = some (none, dput mem B (itr giF (d.1 1).toNat 0 d)) := by
  have key : ∀ (n k : Nat) (d : ST) (z : AV), DW d → k + n = (d.1 1).toNat → ev X m_X0_giveOut 2 [vR B, vI (k : Int), z] [] (dput mem B d) = some (none, dput mem B (itr giF n k d)) := by
    intro n
    induction n with
    | zero =>
      intro k d z h hk
      have c1 : ¬ (k : Int) < d.1 1 := by omega
      rw [eX0_giveOut_2]
      simp only [eX0_giveOut_0, eX0_giveOut_1, eX0_giveOut_3, eX0_giveOut_4, eX0_giveOut_7, eX0_giveOut_10, eX0_giveOut_11, eX0_giveOut_14, eX0_giveOut_15, eX0_giveOut_16, eX0_giveOut_19, eX0_giveOut_22, eX0_giveOut_23, eX0_giveOut_24, eX0_giveOut_27, eX0_giveOut_28, eX0_giveOut_29, eX0_giveOut_31, eX0_giveOut_34, eX0_giveOut_35, eX0_giveOut_36, eX0_giveOut_37, eX0_giveOut_40, eX0_giveOut_43, eX0_giveOut_44, eX0_giveOut_45, eX0_giveOut_48, eX0_giveOut_51, eX0_giveOut_52, eX0_giveOut_55, eX0_giveOut_56, eX0_giveOut_57, eX0_giveOut_58, eX0_giveOut_59, eX0_giveOut_62, eX0_giveOut_63, eX0_giveOut_64, eX0_giveOut_65, eX0_giveOut_66, eX0_giveOut_69, eX0_giveOut_70, eX0_giveOut_71, eX0_giveOut_72, eX0_giveOut_73, eX0_giveOut_76, eX0_giveOut_77, eX0_giveOut_78, eX0_giveOut_81, eX0_giveOut_82, eX0_giveOut_85, eX0_giveOut_86, eX0_giveOut_87, eX0_giveOut_90, eX0_giveOut_93, eX0_giveOut_94, eX0_giveOut_97, eX0_giveOut_100, evb_some, evm_some, evc_some, evc_none, gd, if_true, if_false, eq_self, and_self, and_true, true_and, ne_eq, not_false_eq_true, or_true, true_or, fd0, fd1, fd2, fd3, fd4, fd5, fd6, fd7, fd8, fd9, fd10, fd11, fd12, if_neg c1, itr]
    | succ n ih =>
      intro k d z h hk
      have h' := h
      obtain ⟨hL, h6, h8, hp, hg, hh, hz, hcc⟩ := h'
      obtain ⟨l1, l2, l3, l4, l5, l6, l7, l8, l9, l10⟩ := id hL
      have c1 : (k : Int) < d.1 1 := by have := h8; omega
      have k8 : k < 8 := by omega
      obtain ⟨⟨t0, t1⟩, -, -⟩ := hcc k c1
      obtain ⟨t, ht⟩ := n2i t0
      have ih2 := fun z => ih (k + 1) (giF k d) z (DW_giF h c1) (by rw [giF_1]; omega)
      have he := T0_enemyOf (X := X) (mem := mem) (B := B) (but := -9) hL h6.2 (show (t : Int) < d.1 0 by omega)
      rw [eX0_giveOut_2]
      by_cases q1 : (d.2 8).getD k 0 = 0
      · by_cases q2 : 0 ≤ ene d t (-9)
        · rcases ene_spec d h6.1 t (-9) with q | ⟨s1, s2, s3, s4, s5⟩
          · omega
          obtain ⟨e, hee⟩ := n2i q2
          have e6 : e < 6 := by omega
          have cz : (0 ≤ (e : Int) ∧ (e : Int) < d.1 0) := by omega
          have hcr := T0_carries (X := X) (mem := mem) (B := B) (p := (e : Int)) hL h8.2
          by_cases q3 : car d (e : Int) = true
          · rw [show giF k d = d by rw [giF, if_pos q1, ht, Int.toNat_natCast, if_pos q2, hee, if_pos q3]] at ih2
            simp only [eX0_giveOut_0, eX0_giveOut_1, eX0_giveOut_3, eX0_giveOut_4, eX0_giveOut_7, eX0_giveOut_10, eX0_giveOut_11, eX0_giveOut_14, eX0_giveOut_15, eX0_giveOut_16, eX0_giveOut_19, eX0_giveOut_22, eX0_giveOut_23, eX0_giveOut_24, eX0_giveOut_27, eX0_giveOut_28, eX0_giveOut_29, eX0_giveOut_31, eX0_giveOut_34, eX0_giveOut_35, eX0_giveOut_36, eX0_giveOut_37, eX0_giveOut_40, eX0_giveOut_43, eX0_giveOut_44, eX0_giveOut_45, eX0_giveOut_48, eX0_giveOut_51, eX0_giveOut_52, eX0_giveOut_55, eX0_giveOut_56, eX0_giveOut_57, eX0_giveOut_58, eX0_giveOut_59, eX0_giveOut_62, eX0_giveOut_63, eX0_giveOut_64, eX0_giveOut_65, eX0_giveOut_66, eX0_giveOut_69, eX0_giveOut_70, eX0_giveOut_71, eX0_giveOut_72, eX0_giveOut_73, eX0_giveOut_76, eX0_giveOut_77, eX0_giveOut_78, eX0_giveOut_81, eX0_giveOut_82, eX0_giveOut_85, eX0_giveOut_86, eX0_giveOut_87, eX0_giveOut_90, eX0_giveOut_93, eX0_giveOut_94, eX0_giveOut_97, eX0_giveOut_100, evb_some, evm_some, evc_some, evc_none, gd, if_true, if_false, eq_self, and_self, and_true, true_and, ne_eq, not_false_eq_true, or_true, true_or, fd0, fd1, fd2, fd3, fd4, fd5, fd6, fd7, fd8, fd9, fd10, fd11, fd12, ad1, ad2, ad3, ad4, ad5, ad6, ad7, ad8, ad9, ad10, l6, l8, k8, T0_hasPerson, if_pos c1, if_pos q1, ht, he, hee, if_pos cz, hcr, if_pos q3, show ¬ (1 : Int) = 0 by decide, w32_k1 (show k < 2147483647 by omega), itr, ih2]
            rw [giF, if_pos q1, ht, Int.toNat_natCast, if_pos q2, hee, if_pos q3]
          · have e4 : giF k d = setL (setL (setL d 8 ((d.2 8).set k 1)) 9 ((d.2 9).set k (e : Int))) 10 ((d.2 10).set k (dor (apt d e t) ((d.2 1).getD e 0))) := by
              rw [giF, if_pos q1, ht, Int.toNat_natCast, if_pos q2, hee, if_neg q3, Int.toNat_natCast]
            rw [e4] at ih2
            have hd2 : DW (setL (setL d 8 ((d.2 8).set k 1)) 9 ((d.2 9).set k (e : Int))) → True := fun _ => trivial
            have hap := T0_apart (X := X) (mem := mem) (B := B) h (show (e : Int) < d.1 0 by omega) (show (t : Int) < d.1 0 by omega) (show e ≠ t by omega)
            have hap2 : ev X m_X0_apart 0 [vR B, vI (e : Int), vI (t : Int)] [] (dput mem B (setL (setL d 8 ((d.2 8).set k 1)) 9 ((d.2 9).set k (e : Int)))) = some (some (vI (apt d e t)), dput mem B (setL (setL d 8 ((d.2 8).set k 1)) 9 ((d.2 9).set k (e : Int)))) := by
              have p1 := hp e e6
              have p2 := hp t (by omega)
              have t6 : t < 6 := by omega
              simp only [eX0_apart_0, eX0_apart_1, eX0_apart_2, eX0_apart_3, eX0_apart_6, eX0_apart_9, eX0_apart_10, eX0_apart_13, eX0_apart_14, eX0_apart_15, eX0_apart_16, eX0_apart_19, eX0_apart_20, eX0_apart_21, eX0_apart_22, eX0_apart_25, eX0_apart_28, eX0_apart_29, evb_some, evm_some, evc_some, evc_none, gd, if_true, if_false, eq_self, and_self, and_true, true_and, ne_eq, not_false_eq_true, or_true, true_or, fd0, fd1, fd2, fd3, fd4, fd5, fd6, fd7, fd8, fd9, fd10, fd11, fd12, ad1, ad2, ad3, ad4, ad5, ad6, ad7, ad8, ad9, ad10, setS_1, setS_2, setL_1, setL_2, Nat.reduceEqDiff, ↓reduceIte, List.length_set, T0_hasPairY, l3, e6, t6, (show 0 ≤ (e : Int) ∧ (e : Int) < d.1 0 ∧ 0 ≤ (t : Int) ∧ (t : Int) < d.1 0 ∧ (e : Int) ≠ (t : Int) by omega), show ¬ (1 : Int) = 0 by decide]
              unfold apt
              rw [w32_id (n := (d.2 3).getD e 0 - (d.2 3).getD t 0) (by omega) (by omega)]
              by_cases q : (d.2 3).getD t 0 ≤ (d.2 3).getD e 0
              · rw [if_pos (by omega), if_pos q, w32_id (by omega) (by omega)]
              · rw [if_neg (by omega), if_neg q, w32_id (by omega) (by omega)]
                congr 4
                omega
            simp only [eX0_giveOut_0, eX0_giveOut_1, eX0_giveOut_3, eX0_giveOut_4, eX0_giveOut_7, eX0_giveOut_10, eX0_giveOut_11, eX0_giveOut_14, eX0_giveOut_15, eX0_giveOut_16, eX0_giveOut_19, eX0_giveOut_22, eX0_giveOut_23, eX0_giveOut_24, eX0_giveOut_27, eX0_giveOut_28, eX0_giveOut_29, eX0_giveOut_31, eX0_giveOut_34, eX0_giveOut_35, eX0_giveOut_36, eX0_giveOut_37, eX0_giveOut_40, eX0_giveOut_43, eX0_giveOut_44, eX0_giveOut_45, eX0_giveOut_48, eX0_giveOut_51, eX0_giveOut_52, eX0_giveOut_55, eX0_giveOut_56, eX0_giveOut_57, eX0_giveOut_58, eX0_giveOut_59, eX0_giveOut_62, eX0_giveOut_63, eX0_giveOut_64, eX0_giveOut_65, eX0_giveOut_66, eX0_giveOut_69, eX0_giveOut_70, eX0_giveOut_71, eX0_giveOut_72, eX0_giveOut_73, eX0_giveOut_76, eX0_giveOut_77, eX0_giveOut_78, eX0_giveOut_81, eX0_giveOut_82, eX0_giveOut_85, eX0_giveOut_86, eX0_giveOut_87, eX0_giveOut_90, eX0_giveOut_93, eX0_giveOut_94, eX0_giveOut_97, eX0_giveOut_100, evb_some, evm_some, evc_some, evc_none, gd, if_true, if_false, eq_self, and_self, and_true, true_and, ne_eq, not_false_eq_true, or_true, true_or, fd0, fd1, fd2, fd3, fd4, fd5, fd6, fd7, fd8, fd9, fd10, fd11, fd12, ad1, ad2, ad3, ad4, ad5, ad6, ad7, ad8, ad9, ad10, pd1, pd2, pd3, pd4, pd5, pd6, pd7, pd8, pd9, pd10, setS_1, setS_2, setL_1, setL_2, Nat.reduceEqDiff, ↓reduceIte, List.length_set, l1, l6, l8, l9, l10, k8, e6, T0_hasPerson, T0_milesOf, T0_daysOnRoad, if_pos c1, if_pos q1, ht, he, hee, if_pos cz, hcr, if_neg q3, hap2, show ¬ (1 : Int) = 0 by decide, w32_k1 (show k < 2147483647 by omega), itr, ih2]
            rw [e4]
        · have cz : ¬ (0 ≤ ene d t (-9) ∧ ene d t (-9) < d.1 0) := by omega
          rw [show giF k d = d by rw [giF, if_pos q1, ht, Int.toNat_natCast, if_neg q2]] at ih2
          simp only [eX0_giveOut_0, eX0_giveOut_1, eX0_giveOut_3, eX0_giveOut_4, eX0_giveOut_7, eX0_giveOut_10, eX0_giveOut_11, eX0_giveOut_14, eX0_giveOut_15, eX0_giveOut_16, eX0_giveOut_19, eX0_giveOut_22, eX0_giveOut_23, eX0_giveOut_24, eX0_giveOut_27, eX0_giveOut_28, eX0_giveOut_29, eX0_giveOut_31, eX0_giveOut_34, eX0_giveOut_35, eX0_giveOut_36, eX0_giveOut_37, eX0_giveOut_40, eX0_giveOut_43, eX0_giveOut_44, eX0_giveOut_45, eX0_giveOut_48, eX0_giveOut_51, eX0_giveOut_52, eX0_giveOut_55, eX0_giveOut_56, eX0_giveOut_57, eX0_giveOut_58, eX0_giveOut_59, eX0_giveOut_62, eX0_giveOut_63, eX0_giveOut_64, eX0_giveOut_65, eX0_giveOut_66, eX0_giveOut_69, eX0_giveOut_70, eX0_giveOut_71, eX0_giveOut_72, eX0_giveOut_73, eX0_giveOut_76, eX0_giveOut_77, eX0_giveOut_78, eX0_giveOut_81, eX0_giveOut_82, eX0_giveOut_85, eX0_giveOut_86, eX0_giveOut_87, eX0_giveOut_90, eX0_giveOut_93, eX0_giveOut_94, eX0_giveOut_97, eX0_giveOut_100, evb_some, evm_some, evc_some, evc_none, gd, if_true, if_false, eq_self, and_self, and_true, true_and, ne_eq, not_false_eq_true, or_true, true_or, fd0, fd1, fd2, fd3, fd4, fd5, fd6, fd7, fd8, fd9, fd10, fd11, fd12, ad1, ad2, ad3, ad4, ad5, ad6, ad7, ad8, ad9, ad10, l6, l8, k8, T0_hasPerson, if_pos c1, if_pos q1, ht, he, if_neg cz, w32_k1 (show k < 2147483647 by omega), itr, ih2]
          rw [giF, if_pos q1, ht, Int.toNat_natCast, if_neg q2]
      · rw [show giF k d = d by rw [giF, if_neg q1]] at ih2
        simp only [eX0_giveOut_0, eX0_giveOut_1, eX0_giveOut_3, eX0_giveOut_4, eX0_giveOut_7, eX0_giveOut_10, eX0_giveOut_11, eX0_giveOut_14, eX0_giveOut_15, eX0_giveOut_16, eX0_giveOut_19, eX0_giveOut_22, eX0_giveOut_23, eX0_giveOut_24, eX0_giveOut_27, eX0_giveOut_28, eX0_giveOut_29, eX0_giveOut_31, eX0_giveOut_34, eX0_giveOut_35, eX0_giveOut_36, eX0_giveOut_37, eX0_giveOut_40, eX0_giveOut_43, eX0_giveOut_44, eX0_giveOut_45, eX0_giveOut_48, eX0_giveOut_51, eX0_giveOut_52, eX0_giveOut_55, eX0_giveOut_56, eX0_giveOut_57, eX0_giveOut_58, eX0_giveOut_59, eX0_giveOut_62, eX0_giveOut_63, eX0_giveOut_64, eX0_giveOut_65, eX0_giveOut_66, eX0_giveOut_69, eX0_giveOut_70, eX0_giveOut_71, eX0_giveOut_72, eX0_giveOut_73, eX0_giveOut_76, eX0_giveOut_77, eX0_giveOut_78, eX0_giveOut_81, eX0_giveOut_82, eX0_giveOut_85, eX0_giveOut_86, eX0_giveOut_87, eX0_giveOut_90, eX0_giveOut_93, eX0_giveOut_94, eX0_giveOut_97, eX0_giveOut_100, evb_some, evm_some, evc_some, evc_none, gd, if_true, if_false, eq_self, and_self, and_true, true_and, ne_eq, not_false_eq_true, or_true, true_or, fd0, fd1, fd2, fd3, fd4, fd5, fd6, fd7, fd8, fd9, fd10, fd11, fd12, ad1, ad2, ad3, ad4, ad5, ad6, ad7, ad8, ad9, ad10, l8, k8, if_pos c1, if_neg q1, w32_k1 (show k < 2147483647 by omega), itr, ih2]
        rw [giF, if_neg q1]
  exact Eq.trans (by simp only [eX0_giveOut_0, eX0_giveOut_1]; rfl) (key _ 0 d z2 h (by omega))
/-- a DAY: the week -/
def coF (k : Nat) (l : List Int) : List Int := if 0 < l.getD k 0 then l.set k (w32 (l.getD k 0 - 1)) else l
def coo (d : ST) : ST := setL d 5 (itr coF 36 0 (d.2 5))
theorem coF_len (k : Nat) (l : List Int) : (coF k l).length = l.length := by
  unfold coF
  split
  · rw [List.length_set]
  · rfl
theorem T0_coolDown (hL : DL d) {z1 : AV} : ev X m_X0_coolDown 0 [vR B, z1] [] (dput mem B d) = some (none, dput mem B (coo d)) := by
  have w36 : w32 ((36 : Nat) : Int) = 36 := by decide
  have key : ∀ (n k : Nat) (l : List Int), l.length = 36 → k + n = 36 → ev X m_X0_coolDown 2 [vR B, vI (k : Int)] [] (dput mem B (setL d 5 l)) = some (none, dput mem B (setL d 5 (itr coF n k l))) := by
    intro n
    induction n with
    | zero =>
      intro k l hl hk
      have c1 : ¬ (k : Int) < 36 := by omega
      rw [eX0_coolDown_2]
      simp only [eX0_coolDown_0, eX0_coolDown_1, eX0_coolDown_3, eX0_coolDown_4, eX0_coolDown_7, eX0_coolDown_8, eX0_coolDown_11, eX0_coolDown_12, eX0_coolDown_15, eX0_coolDown_16, eX0_coolDown_17, eX0_coolDown_20, eX0_coolDown_21, eX0_coolDown_24, eX0_coolDown_25, eX0_coolDown_26, eX0_coolDown_27, eX0_coolDown_28, eX0_coolDown_29, eX0_coolDown_30, eX0_coolDown_33, eX0_coolDown_36, evb_some, evm_some, evc_some, evc_none, gd, if_true, if_false, eq_self, and_self, and_true, true_and, ne_eq, not_false_eq_true, or_true, true_or, fd0, fd1, fd2, fd3, fd4, fd5, fd6, fd7, fd8, fd9, fd10, fd11, fd12, ld1, ld2, ld3, ld4, ld5, ld6, ld7, ld8, ld9, ld10, setS_1, setS_2, setL_1, setL_2, Nat.reduceEqDiff, ↓reduceIte, List.length_set, hl, w36, if_neg c1, itr]
    | succ n ih =>
      intro k l hl hk
      have c1 : (k : Int) < 36 := by omega
      have k8 : k < 36 := by omega
      have ih2 := ih (k + 1) (coF k l) (by rw [coF_len]; exact hl) (by omega)
      have e1 : ∀ l2, setL (setL d 5 l) 5 l2 = setL d 5 l2 := fun l2 => ST_ext (fun _ => rfl) (fun j => by simp only [setL_2]; split <;> rfl)
      rw [eX0_coolDown_2]
      by_cases q : 0 < l.getD k 0
      · rw [coF, if_pos q] at ih2
        simp only [eX0_coolDown_0, eX0_coolDown_1, eX0_coolDown_3, eX0_coolDown_4, eX0_coolDown_7, eX0_coolDown_8, eX0_coolDown_11, eX0_coolDown_12, eX0_coolDown_15, eX0_coolDown_16, eX0_coolDown_17, eX0_coolDown_20, eX0_coolDown_21, eX0_coolDown_24, eX0_coolDown_25, eX0_coolDown_26, eX0_coolDown_27, eX0_coolDown_28, eX0_coolDown_29, eX0_coolDown_30, eX0_coolDown_33, eX0_coolDown_36, evb_some, evm_some, evc_some, evc_none, gd, if_true, if_false, eq_self, and_self, and_true, true_and, ne_eq, not_false_eq_true, or_true, true_or, fd0, fd1, fd2, fd3, fd4, fd5, fd6, fd7, fd8, fd9, fd10, fd11, fd12, ld1, ld2, ld3, ld4, ld5, ld6, ld7, ld8, ld9, ld10, ad1, ad2, ad3, ad4, ad5, ad6, ad7, ad8, ad9, ad10, pd1, pd2, pd3, pd4, pd5, pd6, pd7, pd8, pd9, pd10, setS_1, setS_2, setL_1, setL_2, Nat.reduceEqDiff, ↓reduceIte, List.length_set, hl, w36, k8, if_pos c1, if_pos q, e1, w32_k1 (show k < 2147483647 by omega), itr, ih2]
        rw [coF, if_pos q]
      · rw [coF, if_neg q] at ih2
        simp only [eX0_coolDown_0, eX0_coolDown_1, eX0_coolDown_3, eX0_coolDown_4, eX0_coolDown_7, eX0_coolDown_8, eX0_coolDown_11, eX0_coolDown_12, eX0_coolDown_15, eX0_coolDown_16, eX0_coolDown_17, eX0_coolDown_20, eX0_coolDown_21, eX0_coolDown_24, eX0_coolDown_25, eX0_coolDown_26, eX0_coolDown_27, eX0_coolDown_28, eX0_coolDown_29, eX0_coolDown_30, eX0_coolDown_33, eX0_coolDown_36, evb_some, evm_some, evc_some, evc_none, gd, if_true, if_false, eq_self, and_self, and_true, true_and, ne_eq, not_false_eq_true, or_true, true_or, fd0, fd1, fd2, fd3, fd4, fd5, fd6, fd7, fd8, fd9, fd10, fd11, fd12, ld1, ld2, ld3, ld4, ld5, ld6, ld7, ld8, ld9, ld10, ad1, ad2, ad3, ad4, ad5, ad6, ad7, ad8, ad9, ad10, setS_1, setS_2, setL_1, setL_2, Nat.reduceEqDiff, ↓reduceIte, List.length_set, hl, w36, k8, if_pos c1, if_neg q, w32_k1 (show k < 2147483647 by omega), itr, ih2]
        rw [coF, if_neg q]
  have e0 : setL d 5 (d.2 5) = d := ST_ext (fun _ => rfl) (fun j => by simp only [setL_2]; split <;> simp_all)
  have h1 := key 36 0 (d.2 5) hL.2.2.2.2.1 (by omega)
  rw [e0] at h1
  exact Eq.trans (by simp only [eX0_coolDown_0, eX0_coolDown_1]; rfl) h1
theorem coo_at (hl : (d.2 5).length = 36) : ((coo d).2 5).length = 36 ∧ ∀ j, ((coo d).2 5).getD j 0 = if j < 36 ∧ 0 < (d.2 5).getD j 0 then w32 ((d.2 5).getD j 0 - 1) else (d.2 5).getD j 0 := by
  have h1 := itr_inv (f := coF) (fun (k : Nat) (l : List Int) => l.length = 36 ∧ ∀ j, l.getD j 0 = if j < k ∧ 0 < (d.2 5).getD j 0 then w32 ((d.2 5).getD j 0 - 1) else (d.2 5).getD j 0) 36 (by
    intro k l hk hi
    refine ⟨by rw [coF_len]; exact hi.1, fun j => ?_⟩
    unfold coF
    have hk1 := hi.2 k
    rw [if_neg (by omega)] at hk1
    by_cases q : 0 < l.getD k 0
    · rw [if_pos q, getD_set (by rw [hi.1]; exact hk)]
      by_cases e : j = k
      · subst e
        rw [if_pos rfl, if_pos (by rw [← hk1]; exact ⟨by omega, q⟩), hk1]
      · rw [if_neg e, hi.2 j]
        by_cases q2 : j < k ∧ 0 < (d.2 5).getD j 0
        · rw [if_pos q2, if_pos (by omega)]
        · rw [if_neg q2, if_neg (by omega)]
    · rw [if_neg q, hi.2 j]
      by_cases q2 : j < k ∧ 0 < (d.2 5).getD j 0
      · rw [if_pos q2, if_pos (by omega)]
      · rw [if_neg q2]
        by_cases e : j = k
        · subst e
          rw [if_neg (by rw [← hk1]; omega)]
        · rw [if_neg (by omega)]) 36 0 (d.2 5) (by omega) ⟨hl, fun j => by rw [if_neg (by omega)]⟩
  unfold coo
  rw [setL_2, if_pos rfl]
  exact h1
theorem DW_coo (h : DW d) : DW (coo d) := by
  obtain ⟨⟨l1, l2, l3, l4, l5, l6, l7, l8, l9, l10⟩, h6, h8, hp, hg, hh, hz, hcc⟩ := h
  have ha := coo_at l5
  refine ⟨⟨l1, l2, l3, l4, ha.1, l6, l7, l8, l9, l10⟩, h6, h8, hp, hg, fun i j hi hj => ?_, fun i j hi hj hij => ?_, hcc⟩
  · have h1 := hh i j hi hj
    unfold hat at h1 ⊢
    rw [ha.2]
    split
    · rw [w32_id (by omega) (by omega)]; omega
    · exact h1
  · have h1 : hat d i j = 0 := hz i j hi hj hij
    unfold hat at h1 ⊢
    rw [ha.2, if_neg (by omega)]
    exact h1
/-- a DAY -/
def pday (snow : Bool) (d : ST) : ST :=
  let d1 := setS d 2 (w32 (d.1 2 + 1))
  let d2 := if snow = true then d1 else itr caF (d.1 1).toNat 0 d1
  let d3 := itr giF (d.1 1).toNat 0 d2
  if w32 ((w32 (d.1 2 + 1)).tmod 7) = 0 then coo d3 else d3
theorem DW_date (h : DW d) {v : Int} : DW (setS d 2 v) := h
theorem itr_caF (h : DW d) : ∀ (n k : Nat), k + n = (d.1 1).toNat → DW (itr caF n k d) ∧ (itr caF n k d).1 = d.1 := by
  intro n k hk
  exact itr_inv (f := caF) (fun _ e => DW e ∧ e.1 = d.1) (d.1 1).toNat (fun j e hj he => ⟨DW_caF he.1 (by rw [he.2]; omega), by rw [caF_1]; exact he.2⟩) n k d hk ⟨h, rfl⟩
theorem itr_giF (h : DW d) : ∀ (n k : Nat), k + n = (d.1 1).toNat → DW (itr giF n k d) ∧ (itr giF n k d).1 = d.1 := by
  intro n k hk
  exact itr_inv (f := giF) (fun _ e => DW e ∧ e.1 = d.1) (d.1 1).toNat (fun j e hj he => ⟨DW_giF he.1 (by rw [he.2]; omega), by rw [giF_1]; exact he.2⟩) n k d hk ⟨h, rfl⟩
theorem pday_ok (h : DW d) (s : Bool) : DW (pday s d) ∧ (pday s d).1 0 = d.1 0 ∧ (pday s d).1 1 = d.1 1 ∧ (pday s d).1 2 = w32 (d.1 2 + 1) := by
  unfold pday
  dsimp only
  have h1 : DW (setS d 2 (w32 (d.1 2 + 1))) := h
  have h2 : DW (if s = true then setS d 2 (w32 (d.1 2 + 1)) else itr caF (d.1 1).toNat 0 (setS d 2 (w32 (d.1 2 + 1)))) ∧ (if s = true then setS d 2 (w32 (d.1 2 + 1)) else itr caF (d.1 1).toNat 0 (setS d 2 (w32 (d.1 2 + 1)))).1 = (setS d 2 (w32 (d.1 2 + 1))).1 := by
    split
    · exact ⟨h1, rfl⟩
    · exact itr_caF h1 _ 0 (by rw [setS_1]; simp)
  generalize (if s = true then setS d 2 (w32 (d.1 2 + 1)) else itr caF (d.1 1).toNat 0 (setS d 2 (w32 (d.1 2 + 1)))) = e at h2 ⊢
  have h3 := itr_giF h2.1 (d.1 1).toNat 0 (by rw [h2.2, setS_1]; simp)
  rw [h2.2] at h3
  split
  · exact ⟨DW_coo h3.1, by show (itr giF _ 0 e).1 0 = _; rw [h3.2]; rfl, by show (itr giF _ 0 e).1 1 = _; rw [h3.2]; rfl, by show (itr giF _ 0 e).1 2 = _; rw [h3.2]; rfl⟩
  · exact ⟨h3.1, by rw [h3.2]; rfl, by rw [h3.2]; rfl, by rw [h3.2]; rfl⟩
theorem T0_passDay (h : DW d) (s : Bool) : ev X m_X0_passDay 0 [vR B, vI (if s = true then 1 else 0)] [] (dput mem B d) = some (none, dput mem B (pday s d)) := by
  have h1 : DW (setS d 2 (w32 (d.1 2 + 1))) := h
  cases s with
  | true =>
    have h3 := itr_giF h1 (d.1 1).toNat 0 (by rw [setS_1]; simp)
    have g1 := T0_giveOut (X := X) (mem := mem) (B := B) (z1 := vS) (z2 := vS) h1
    rw [show ((setS d 2 (w32 (d.1 2 + 1))).1 1).toNat = (d.1 1).toNat from rfl] at g1
    have e2 : (itr giF (d.1 1).toNat 0 (setS d 2 (w32 (d.1 2 + 1)))).1 2 = w32 (d.1 2 + 1) := by rw [h3.2]; rfl
    have g2 := T0_coolDown (X := X) (mem := mem) (B := B) (z1 := vS) h3.1.1
    simp only [eX0_passDay_0, eX0_passDay_1, eX0_passDay_1r, eX0_passDay_2, eX0_passDay_5, eX0_passDay_6, eX0_passDay_7, eX0_passDay_10, eX0_passDay_11, eX0_passDay_14, eX0_passDay_15, eX0_passDay_18, eX0_passDay_19, eX0_passDay_22, eX0_passDay_23, eX0_passDay_26, eX0_passDay_28, eX0_passDay_29, eX0_passDay_32, eX0_passDay_33, eX0_passDay_36, evb_some, evm_some, evc_some, evc_none, gd, if_true, if_false, eq_self, and_self, and_true, true_and, ne_eq, not_false_eq_true, or_true, true_or, fd0, fd1, fd2, fd3, fd4, fd5, fd6, fd7, fd8, fd9, fd10, fd11, fd12, fp0, fp1, fp2, setS_1, setS_2, setL_1, setL_2, Nat.reduceEqDiff, ↓reduceIte, List.length_set, g1, e2, g2, if_neg z7, show ¬ (1 : Int) = 0 by decide]
    unfold pday
    dsimp only
    rw [if_pos rfl]
    (repeat' split) <;> first | rfl | omega
  | false =>
    have g0 := T0_carryOn (X := X) (mem := mem) (B := B) (z1 := vS) (z2 := vS) h1
    rw [show ((setS d 2 (w32 (d.1 2 + 1))).1 1).toNat = (d.1 1).toNat from rfl] at g0
    have h2 := itr_caF h1 (d.1 1).toNat 0 (by rw [setS_1]; simp)
    have h3 := itr_giF h2.1 (d.1 1).toNat 0 (by rw [h2.2, setS_1]; simp)
    have g1 := T0_giveOut (X := X) (mem := mem) (B := B) (z1 := vS) (z2 := vS) h2.1
    rw [h2.2, show ((setS d 2 (w32 (d.1 2 + 1))).1 1).toNat = (d.1 1).toNat from rfl] at g1
    have e2 : (itr giF (d.1 1).toNat 0 (itr caF (d.1 1).toNat 0 (setS d 2 (w32 (d.1 2 + 1))))).1 2 = w32 (d.1 2 + 1) := by rw [h3.2, h2.2]; rfl
    have g2 := T0_coolDown (X := X) (mem := mem) (B := B) (z1 := vS) h3.1.1
    simp only [eX0_passDay_0, eX0_passDay_1, eX0_passDay_1r, eX0_passDay_2, eX0_passDay_5, eX0_passDay_6, eX0_passDay_7, eX0_passDay_10, eX0_passDay_11, eX0_passDay_14, eX0_passDay_15, eX0_passDay_18, eX0_passDay_19, eX0_passDay_22, eX0_passDay_23, eX0_passDay_26, eX0_passDay_28, eX0_passDay_29, eX0_passDay_32, eX0_passDay_33, eX0_passDay_36, evb_some, evm_some, evc_some, evc_none, gd, if_true, if_false, eq_self, and_self, and_true, true_and, ne_eq, not_false_eq_true, or_true, true_or, fd0, fd1, fd2, fd3, fd4, fd5, fd6, fd7, fd8, fd9, fd10, fd11, fd12, fp0, fp1, fp2, setS_1, setS_2, setL_1, setL_2, Nat.reduceEqDiff, ↓reduceIte, List.length_set, g0, g1, e2, g2, if_neg z7, Bool.false_eq_true]
    unfold pday
    simp only [Bool.false_eq_true, if_false]
    (repeat' split) <;> first | rfl | contradiction
def pdays (n : Nat) (d : ST) : ST := itr (fun _ e => pday false e) n 0 d
theorem itr_pday (h : DW d) : ∀ (n k : Nat), DW (itr (fun _ e => pday false e) n k d) ∧ (itr (fun _ e => pday false e) n k d).1 0 = d.1 0 ∧ (itr (fun _ e => pday false e) n k d).1 1 = d.1 1 := by
  intro n k
  exact itr_inv (f := fun _ e => pday false e) (fun _ e => DW e ∧ e.1 0 = d.1 0 ∧ e.1 1 = d.1 1) (k + n) (fun j e hj he => ⟨(pday_ok he.1 false).1, by rw [(pday_ok he.1 false).2.1]; exact he.2.1, by rw [(pday_ok he.1 false).2.2.1]; exact he.2.2⟩) n k d rfl ⟨h, rfl, rfl⟩
theorem pdays_ok (h : DW d) (n : Nat) : DW (pdays n d) ∧ (pdays n d).1 0 = d.1 0 ∧ (pdays n d).1 1 = d.1 1 := itr_pday h n 0
theorem T0_passDays (h : DW d) {n : Nat} (hn : n < 2147483647) {z : AV} : ev X m_X0_passDays 0 [vR B, vI (n : Int), z] [] (dput mem B d) = some (none, dput mem B (pdays n d)) := by
  have key : ∀ (m k : Nat) (d : ST), DW d → k + m = n → ev X m_X0_passDays 2 [vR B, vI (n : Int), vI (k : Int)] [] (dput mem B d) = some (none, dput mem B (itr (fun _ e => pday false e) m k d)) := by
    intro m
    induction m with
    | zero =>
      intro k d h hk
      have c1 : ¬ (k : Int) < (n : Int) := by omega
      rw [eX0_passDays_2]
      simp only [eX0_passDays_0, eX0_passDays_1, eX0_passDays_3, eX0_passDays_4, eX0_passDays_7, eX0_passDays_8, eX0_passDays_9, eX0_passDays_12, eX0_passDays_15, eX0_passDays_18, evb_some, evm_some, evc_some, evc_none, gd, if_true, if_false, eq_self, and_self, and_true, true_and, ne_eq, not_false_eq_true, or_true, true_or, if_neg c1, itr]
    | succ m ih =>
      intro k d h hk
      have c1 : (k : Int) < (n : Int) := by omega
      have hp := T0_passDay (X := X) (mem := mem) (B := B) h false
      simp only [Bool.false_eq_true, if_false] at hp
      rw [eX0_passDays_2]
      simp only [eX0_passDays_0, eX0_passDays_1, eX0_passDays_3, eX0_passDays_4, eX0_passDays_7, eX0_passDays_8, eX0_passDays_9, eX0_passDays_12, eX0_passDays_15, eX0_passDays_18, evb_some, evm_some, evc_some, evc_none, gd, if_true, if_false, eq_self, and_self, and_true, true_and, ne_eq, not_false_eq_true, or_true, true_or, if_pos c1, hp, w32_k1 (show k < 2147483647 by omega), itr]
      exact ih _ _ (pday_ok h false).1 (by omega)
  exact Eq.trans (by simp only [eX0_passDays_0, eX0_passDays_1]; rfl) (key n 0 d h (by omega))
end DAY
