/-! WHO -/
section WO
variable {X : List Int} {mem : AM} {n t mi la g gm d : ST}
/-- whether it is so as the ROW tells -/
def tol (row : List Int) (c : Nat) : Nat → Nat → ST → Bool
  | 0, _, _ => true
  | m + 1, k, e => if row.getD k 0 = (if (e.2 9).getD c 0 < 0 then 9 else (e.2 9).getD c 0) then tol row c m (k + 1) (pday false e) else false
theorem T3_goesAsTold (hg : GL g) {N c : Nat} (hN : g.1 2 = (N : Int)) (h16 : N ≤ 16) (h : DW d) (hc : (c : Int) < d.1 1) : ∃ d', DW d' ∧ ev X m_X3_goesAsTold 0 [vR 23, vI (c : Int), vR 50, vS] [] (cpt mem n t d la g) = some (some (vI (if tol (g.2 2) c N 0 d = true then 1 else 0)), cpt mem n t d' la g) := by
  have key : ∀ (m k : Nat) (d : ST), DW d → (c : Int) < d.1 1 → k + m = N → ∃ d', DW d' ∧ ev X m_X3_goesAsTold 2 [vR 23, vI (c : Int), vR 50, vI (k : Int)] [] (cpt mem n t d la g) = some (some (vI (if tol (g.2 2) c m k d = true then 1 else 0)), cpt mem n t d' la g) := by
    intro m
    induction m with
    | zero =>
      intro k d h hc hk
      have c1 : ¬ (k : Int) < (N : Int) := by omega
      refine ⟨d, h, ?_⟩
      rw [eX3_goesAsTold_2]
      simp only [eX3_goesAsTold_0, eX3_goesAsTold_1, eX3_goesAsTold_3, eX3_goesAsTold_4, eX3_goesAsTold_7, eX3_goesAsTold_10, eX3_goesAsTold_11, eX3_goesAsTold_12, eX3_goesAsTold_15, eX3_goesAsTold_16, eX3_goesAsTold_19, eX3_goesAsTold_20, eX3_goesAsTold_23, eX3_goesAsTold_26, eX3_goesAsTold_29, eX3_goesAsTold_30a, eX3_goesAsTold_30b, eX3_goesAsTold_30c, eX3_goesAsTold_31, eX3_goesAsTold_32, eX3_goesAsTold_35, eX3_goesAsTold_36, eX3_goesAsTold_39, eX3_goesAsTold_42, eX3_goesAsTold_45, eX3_goesAsTold_46a, eX3_goesAsTold_46b, eX3_goesAsTold_46c, evb_some, evm_some, evc_some, evc_none, gd, if_true, if_false, eq_self, and_self, and_true, true_and, ne_eq, not_false_eq_true, or_true, true_or, cf0_0, cf0_1, cf0_2, cf0_3, cf0_4, cf0_5, cf0_6, cf23_0, cf23_1, cf23_2, cf23_3, cf48_0, cf48_1, cf50_0, cf50_1, cg0, cg23, cg48, cg50, cg1, cg12, cg24, cg35, Int.reduceEq, Int.reduceLT, Int.reduceLE, ↓reduceIte, hN, c1, tol]
    | succ m ih =>
      intro k d h hc hk
      have c1 : (k : Int) < (N : Int) := by omega
      have h8 := h.2.2.1.2
      have hat := T1_at (X := X) (mem := mem) (n := n) (t := t) (mi := d) (la := la) (k := k) hg (by omega)
      by_cases q : (g.2 2).getD k 0 = (if (d.2 9).getD c 0 < 0 then 9 else (d.2 9).getD c 0)
      · have hp := m_passDay (X := X) (mem := mem) (n := n) (t := t) (la := la) (g := g) h false
        simp only [Bool.false_eq_true, if_false] at hp
        obtain ⟨d', h1, h2⟩ := ih (k + 1) (pday false d) (pday_ok h false).1 (by rw [(pday_ok h false).2.2.1]; exact hc) (by omega)
        refine ⟨d', h1, ?_⟩
        rw [eX3_goesAsTold_2]
        simp only [eX3_goesAsTold_0, eX3_goesAsTold_1, eX3_goesAsTold_3, eX3_goesAsTold_4, eX3_goesAsTold_7, eX3_goesAsTold_10, eX3_goesAsTold_11, eX3_goesAsTold_12, eX3_goesAsTold_15, eX3_goesAsTold_16, eX3_goesAsTold_19, eX3_goesAsTold_20, eX3_goesAsTold_23, eX3_goesAsTold_26, eX3_goesAsTold_29, eX3_goesAsTold_30a, eX3_goesAsTold_30b, eX3_goesAsTold_30c, eX3_goesAsTold_31, eX3_goesAsTold_32, eX3_goesAsTold_35, eX3_goesAsTold_36, eX3_goesAsTold_39, eX3_goesAsTold_42, eX3_goesAsTold_45, eX3_goesAsTold_46a, eX3_goesAsTold_46b, eX3_goesAsTold_46c, evb_some, evm_some, evc_some, evc_none, gd, if_true, if_false, eq_self, and_self, and_true, true_and, ne_eq, not_false_eq_true, or_true, true_or, cf0_0, cf0_1, cf0_2, cf0_3, cf0_4, cf0_5, cf0_6, cf23_0, cf23_1, cf23_2, cf23_3, cf48_0, cf48_1, cf50_0, cf50_1, cg0, cg23, cg48, cg50, cg1, cg12, cg24, cg35, Int.reduceEq, Int.reduceLT, Int.reduceLE, ↓reduceIte, hN, c1, hat, m_carrierOf h.1 hc h8, T4_asTold, tol, if_pos q, hp, w32_k1 (show k < 2147483647 by omega)]
        exact h2
      · refine ⟨d, h, ?_⟩
        rw [eX3_goesAsTold_2]
        simp only [eX3_goesAsTold_0, eX3_goesAsTold_1, eX3_goesAsTold_3, eX3_goesAsTold_4, eX3_goesAsTold_7, eX3_goesAsTold_10, eX3_goesAsTold_11, eX3_goesAsTold_12, eX3_goesAsTold_15, eX3_goesAsTold_16, eX3_goesAsTold_19, eX3_goesAsTold_20, eX3_goesAsTold_23, eX3_goesAsTold_26, eX3_goesAsTold_29, eX3_goesAsTold_30a, eX3_goesAsTold_30b, eX3_goesAsTold_30c, eX3_goesAsTold_31, eX3_goesAsTold_32, eX3_goesAsTold_35, eX3_goesAsTold_36, eX3_goesAsTold_39, eX3_goesAsTold_42, eX3_goesAsTold_45, eX3_goesAsTold_46a, eX3_goesAsTold_46b, eX3_goesAsTold_46c, evb_some, evm_some, evc_some, evc_none, gd, if_true, if_false, eq_self, and_self, and_true, true_and, ne_eq, not_false_eq_true, or_true, true_or, cf0_0, cf0_1, cf0_2, cf0_3, cf0_4, cf0_5, cf0_6, cf23_0, cf23_1, cf23_2, cf23_3, cf48_0, cf48_1, cf50_0, cf50_1, cg0, cg23, cg48, cg50, cg1, cg12, cg24, cg35, Int.reduceEq, Int.reduceLT, Int.reduceLE, ↓reduceIte, hN, c1, hat, m_carrierOf h.1 hc h8, T4_asTold, tol, if_neg q, Bool.false_eq_true]
  obtain ⟨d', h1, h2⟩ := key N 0 d h hc (by omega)
  exact ⟨d', h1, Eq.trans (by simp only [eX3_goesAsTold_0, eX3_goesAsTold_1]; rfl) h2⟩
theorem T5_isSo (h : DW d) (hm : ML g) {N c : Nat} (hN : g.1 6 = (N : Int)) (h16 : N ≤ 16) (hc : (c : Int) < d.1 1) : ev X m_X5_isSo 0 [vR 53, vI (c : Int), vS, vS] [] (mpt mem g d) = some (some (vI (if tol (g.2 7) c N 0 d = true then 1 else 0)), mpt mem (gTh g d) d) := by
  have hl : (g.2 5).length = 309 := hm.2.2.2.2.2.1
  have l7 : (g.2 7).length = 16 := hm.2.2.2.2.2.2.2
  have hN2 : (gG g (kA (g.2 5) 206 d) 1 309).1 6 = (N : Int) := hN
  have l72 : (gG g (kA (g.2 5) 206 d) 1 309).2 7 = g.2 7 := by
    unfold gG
    rw [setS_2, setS_2, setL_2, if_neg (by decide)]
  have key : ∀ (m k : Nat) (e : ST), DW e → (c : Int) < e.1 1 → k + m = N → ∃ e' z, DW e' ∧ ev X m_X5_isSo 8 [vR 53, vI (c : Int), vI 1, vI (k : Int)] [] (mpt mem (gG g (kA (g.2 5) 206 d) 1 309) e) = ev X m_X5_isSo 66 [vR 53, vI (c : Int), vI (if tol (g.2 7) c m k e = true then 1 else 0), z] [] (mpt mem (gG g (kA (g.2 5) 206 d) 1 309) e') := by
    intro m
    induction m with
    | zero =>
      intro k e he hce hk
      have c1 : ¬ (k : Int) < (N : Int) := by omega
      refine ⟨e, vI (k : Int), he, ?_⟩
      rw [eX5_isSo_8]
      simp only [eX5_isSo_9, eX5_isSo_10, eX5_isSo_13, eX5_isSo_16, eX5_isSo_17, eX5_isSo_20, eX5_isSo_21, eX5_isSo_24, eX5_isSo_25, eX5_isSo_26, eX5_isSo_29, eX5_isSo_31, eX5_isSo_34, eX5_isSo_35, eX5_isSo_38, eX5_isSo_39, eX5_isSo_40, eX5_isSo_41, eX5_isSo_44, eX5_isSo_45, eX5_isSo_46, eX5_isSo_49, eX5_isSo_50, eX5_isSo_53, eX5_isSo_54, eX5_isSo_55, eX5_isSo_56, eX5_isSo_57, eX5_isSo_60, eX5_isSo_63, evb_some, evm_some, evc_some, evc_none, gd, if_true, if_false, eq_self, and_self, and_true, true_and, ne_eq, not_false_eq_true, or_true, true_or, mg, mf0, mf1, mf2, mf3, mf4, mf5, mf6, mf7, mf8, mf9, mf10, mf11, mf12, mf13, mf14, mf15, mf16, mf17, mf18, mf19, mf20, mf21, mf22, mf23, mf24, mf25, mf26, mf27, ma54, ma55, ma56, ma57, ma58, ma59, ma60, ma61, ma62, ma63, ma64, ma65, ma66, ma67, ma68, ma69, ma70, ma71, Int.reduceEq, Int.reduceLT, Int.reduceLE, ↓reduceIte, hN2, c1, tol]
    | succ m ih =>
      intro k e he hce hk
      have c1 : (k : Int) < (N : Int) := by omega
      have k16 : k < 16 := by omega
      have c8 : c < 8 := by have := he.2.2.1; omega
      have l9 : (e.2 9).length = 8 := he.1.2.2.2.2.2.2.2.2.1
      have hp := T5_goesDay0 (X := X) (mem := mem) (g := gG g (kA (g.2 5) 206 d) 1 309) (y1 := vS) he
      by_cases q : (g.2 7).getD k 0 = (if (e.2 9).getD c 0 < 0 then 9 else (e.2 9).getD c 0)
      · obtain ⟨e', z, h1, h2⟩ := ih (k + 1) (pday false e) (pday_ok he false).1 (by rw [(pday_ok he false).2.2.1]; exact hce) (by omega)
        refine ⟨e', z, h1, ?_⟩
        rw [eX5_isSo_8, tol, if_pos q]
        by_cases q2 : (e.2 9).getD c 0 < 0
        · rw [if_pos q2] at q
          simp only [eX5_isSo_9, eX5_isSo_10, eX5_isSo_13, eX5_isSo_16, eX5_isSo_17, eX5_isSo_20, eX5_isSo_21, eX5_isSo_24, eX5_isSo_25, eX5_isSo_26, eX5_isSo_29, eX5_isSo_31, eX5_isSo_34, eX5_isSo_35, eX5_isSo_38, eX5_isSo_39, eX5_isSo_40, eX5_isSo_41, eX5_isSo_44, eX5_isSo_45, eX5_isSo_46, eX5_isSo_49, eX5_isSo_50, eX5_isSo_53, eX5_isSo_54, eX5_isSo_55, eX5_isSo_56, eX5_isSo_57, eX5_isSo_60, eX5_isSo_63, evb_some, evm_some, evc_some, evc_none, gd, if_true, if_false, eq_self, and_self, and_true, true_and, ne_eq, not_false_eq_true, or_true, true_or, mg, mf0, mf1, mf2, mf3, mf4, mf5, mf6, mf7, mf8, mf9, mf10, mf11, mf12, mf13, mf14, mf15, mf16, mf17, mf18, mf19, mf20, mf21, mf22, mf23, mf24, mf25, mf26, mf27, ma54, ma55, ma56, ma57, ma58, ma59, ma60, ma61, ma62, ma63, ma64, ma65, ma66, ma67, ma68, ma69, ma70, ma71, Int.reduceEq, Int.reduceLT, Int.reduceLE, ↓reduceIte, hN2, c1, l9, c8, l72, l7, k16, if_pos q2, q, hp, w32_k1 (show k < 2147483647 by omega)]
          exact h2
        · rw [if_neg q2] at q
          simp only [eX5_isSo_9, eX5_isSo_10, eX5_isSo_13, eX5_isSo_16, eX5_isSo_17, eX5_isSo_20, eX5_isSo_21, eX5_isSo_24, eX5_isSo_25, eX5_isSo_26, eX5_isSo_29, eX5_isSo_31, eX5_isSo_34, eX5_isSo_35, eX5_isSo_38, eX5_isSo_39, eX5_isSo_40, eX5_isSo_41, eX5_isSo_44, eX5_isSo_45, eX5_isSo_46, eX5_isSo_49, eX5_isSo_50, eX5_isSo_53, eX5_isSo_54, eX5_isSo_55, eX5_isSo_56, eX5_isSo_57, eX5_isSo_60, eX5_isSo_63, evb_some, evm_some, evc_some, evc_none, gd, if_true, if_false, eq_self, and_self, and_true, true_and, ne_eq, not_false_eq_true, or_true, true_or, mg, mf0, mf1, mf2, mf3, mf4, mf5, mf6, mf7, mf8, mf9, mf10, mf11, mf12, mf13, mf14, mf15, mf16, mf17, mf18, mf19, mf20, mf21, mf22, mf23, mf24, mf25, mf26, mf27, ma54, ma55, ma56, ma57, ma58, ma59, ma60, ma61, ma62, ma63, ma64, ma65, ma66, ma67, ma68, ma69, ma70, ma71, Int.reduceEq, Int.reduceLT, Int.reduceLE, ↓reduceIte, hN2, c1, l9, c8, l72, l7, k16, if_neg q2, q, hp, w32_k1 (show k < 2147483647 by omega)]
          exact h2
      · refine ⟨pday false e, vI ((k + 1 : Nat) : Int), (pday_ok he false).1, ?_⟩
        rw [eX5_isSo_8, tol, if_neg q]
        have hend : ev X m_X5_isSo 8 [vR 53, vI (c : Int), vI 0, vI ((k + 1 : Nat) : Int)] [] (mpt mem (gG g (kA (g.2 5) 206 d) 1 309) (pday false e)) = ev X m_X5_isSo 66 [vR 53, vI (c : Int), vI 0, vI ((k + 1 : Nat) : Int)] [] (mpt mem (gG g (kA (g.2 5) 206 d) 1 309) (pday false e)) := by
          rw [eX5_isSo_8]
          by_cases q3 : ((k + 1 : Nat) : Int) < (N : Int)
          · simp only [eX5_isSo_9, eX5_isSo_10, eX5_isSo_13, eX5_isSo_16, eX5_isSo_17, eX5_isSo_20, eX5_isSo_21, eX5_isSo_24, eX5_isSo_25, eX5_isSo_26, eX5_isSo_29, eX5_isSo_31, eX5_isSo_34, eX5_isSo_35, eX5_isSo_38, eX5_isSo_39, eX5_isSo_40, eX5_isSo_41, eX5_isSo_44, eX5_isSo_45, eX5_isSo_46, eX5_isSo_49, eX5_isSo_50, eX5_isSo_53, eX5_isSo_54, eX5_isSo_55, eX5_isSo_56, eX5_isSo_57, eX5_isSo_60, eX5_isSo_63, evb_some, evm_some, evc_some, evc_none, gd, if_true, if_false, eq_self, and_self, and_true, true_and, ne_eq, not_false_eq_true, or_true, true_or, mg, mf0, mf1, mf2, mf3, mf4, mf5, mf6, mf7, mf8, mf9, mf10, mf11, mf12, mf13, mf14, mf15, mf16, mf17, mf18, mf19, mf20, mf21, mf22, mf23, mf24, mf25, mf26, mf27, ma54, ma55, ma56, ma57, ma58, ma59, ma60, ma61, ma62, ma63, ma64, ma65, ma66, ma67, ma68, ma69, ma70, ma71, Int.reduceEq, Int.reduceLT, Int.reduceLE, ↓reduceIte, hN2, q3]
          · simp only [eX5_isSo_9, eX5_isSo_10, eX5_isSo_13, eX5_isSo_16, eX5_isSo_17, eX5_isSo_20, eX5_isSo_21, eX5_isSo_24, eX5_isSo_25, eX5_isSo_26, eX5_isSo_29, eX5_isSo_31, eX5_isSo_34, eX5_isSo_35, eX5_isSo_38, eX5_isSo_39, eX5_isSo_40, eX5_isSo_41, eX5_isSo_44, eX5_isSo_45, eX5_isSo_46, eX5_isSo_49, eX5_isSo_50, eX5_isSo_53, eX5_isSo_54, eX5_isSo_55, eX5_isSo_56, eX5_isSo_57, eX5_isSo_60, eX5_isSo_63, evb_some, evm_some, evc_some, evc_none, gd, if_true, if_false, eq_self, and_self, and_true, true_and, ne_eq, not_false_eq_true, or_true, true_or, mg, mf0, mf1, mf2, mf3, mf4, mf5, mf6, mf7, mf8, mf9, mf10, mf11, mf12, mf13, mf14, mf15, mf16, mf17, mf18, mf19, mf20, mf21, mf22, mf23, mf24, mf25, mf26, mf27, ma54, ma55, ma56, ma57, ma58, ma59, ma60, ma61, ma62, ma63, ma64, ma65, ma66, ma67, ma68, ma69, ma70, ma71, Int.reduceEq, Int.reduceLT, Int.reduceLE, ↓reduceIte, hN2, q3]
        by_cases q2 : (e.2 9).getD c 0 < 0
        · rw [if_pos q2] at q
          have q' : ¬ 9 = (g.2 7).getD k 0 := fun z => q z.symm
          simp only [eX5_isSo_9, eX5_isSo_10, eX5_isSo_13, eX5_isSo_16, eX5_isSo_17, eX5_isSo_20, eX5_isSo_21, eX5_isSo_24, eX5_isSo_25, eX5_isSo_26, eX5_isSo_29, eX5_isSo_31, eX5_isSo_34, eX5_isSo_35, eX5_isSo_38, eX5_isSo_39, eX5_isSo_40, eX5_isSo_41, eX5_isSo_44, eX5_isSo_45, eX5_isSo_46, eX5_isSo_49, eX5_isSo_50, eX5_isSo_53, eX5_isSo_54, eX5_isSo_55, eX5_isSo_56, eX5_isSo_57, eX5_isSo_60, eX5_isSo_63, evb_some, evm_some, evc_some, evc_none, gd, if_true, if_false, eq_self, and_self, and_true, true_and, ne_eq, not_false_eq_true, or_true, true_or, mg, mf0, mf1, mf2, mf3, mf4, mf5, mf6, mf7, mf8, mf9, mf10, mf11, mf12, mf13, mf14, mf15, mf16, mf17, mf18, mf19, mf20, mf21, mf22, mf23, mf24, mf25, mf26, mf27, ma54, ma55, ma56, ma57, ma58, ma59, ma60, ma61, ma62, ma63, ma64, ma65, ma66, ma67, ma68, ma69, ma70, ma71, Int.reduceEq, Int.reduceLT, Int.reduceLE, ↓reduceIte, hN2, c1, l9, c8, l72, l7, k16, if_pos q2, q', hp, w32_k1 (show k < 2147483647 by omega), Bool.false_eq_true]
          exact hend
        · rw [if_neg q2] at q
          have q' : ¬ (e.2 9).getD c 0 = (g.2 7).getD k 0 := fun z => q z.symm
          simp only [eX5_isSo_9, eX5_isSo_10, eX5_isSo_13, eX5_isSo_16, eX5_isSo_17, eX5_isSo_20, eX5_isSo_21, eX5_isSo_24, eX5_isSo_25, eX5_isSo_26, eX5_isSo_29, eX5_isSo_31, eX5_isSo_34, eX5_isSo_35, eX5_isSo_38, eX5_isSo_39, eX5_isSo_40, eX5_isSo_41, eX5_isSo_44, eX5_isSo_45, eX5_isSo_46, eX5_isSo_49, eX5_isSo_50, eX5_isSo_53, eX5_isSo_54, eX5_isSo_55, eX5_isSo_56, eX5_isSo_57, eX5_isSo_60, eX5_isSo_63, evb_some, evm_some, evc_some, evc_none, gd, if_true, if_false, eq_self, and_self, and_true, true_and, ne_eq, not_false_eq_true, or_true, true_or, mg, mf0, mf1, mf2, mf3, mf4, mf5, mf6, mf7, mf8, mf9, mf10, mf11, mf12, mf13, mf14, mf15, mf16, mf17, mf18, mf19, mf20, mf21, mf22, mf23, mf24, mf25, mf26, mf27, ma54, ma55, ma56, ma57, ma58, ma59, ma60, ma61, ma62, ma63, ma64, ma65, ma66, ma67, ma68, ma69, ma70, ma71, Int.reduceEq, Int.reduceLT, Int.reduceLE, ↓reduceIte, hN2, c1, l9, c8, l72, l7, k16, if_neg q2, q', hp, w32_k1 (show k < 2147483647 by omega), Bool.false_eq_true]
          exact hend
  obtain ⟨e', z, h1, h2⟩ := key N 0 d h hc (by omega)
  refine Eq.trans (b := ev X m_X5_isSo 8 [vR 53, vI (c : Int), vI 1, vI 0] [] (mpt mem (gG g (kA (g.2 5) 206 d) 1 309) d)) ?_ (h2.trans ?_)
  · simp only [eX5_isSo_0, eX5_isSo_1, eX5_isSo_4, eX5_isSo_5, eX5_isSo_6, eX5_isSo_7, evb_some, evm_some, evc_some, evc_none, gd, if_true, if_false, eq_self, and_self, and_true, true_and, ne_eq, not_false_eq_true, or_true, true_or, mg, mf0, mf1, mf2, mf3, mf4, mf5, mf6, mf7, mf8, mf9, mf10, mf11, mf12, mf13, mf14, mf15, mf16, mf17, mf18, mf19, mf20, mf21, mf22, mf23, mf24, mf25, mf26, mf27, ma54, ma55, ma56, ma57, ma58, ma59, ma60, ma61, ma62, ma63, ma64, ma65, ma66, ma67, ma68, ma69, ma70, ma71, Int.reduceEq, Int.reduceLT, Int.reduceLE, ↓reduceIte, T5_thinks h.1 hl]
  · simp only [eX5_isSo_66, eX5_isSo_67, eX5_isSo_70, eX5_isSo_71a, eX5_isSo_71b, eX5_isSo_71c, evb_some, evm_some, evc_some, evc_none, gd, if_true, if_false, eq_self, and_self, and_true, true_and, ne_eq, not_false_eq_true, or_true, true_or, mg, mf0, mf1, mf2, mf3, mf4, mf5, mf6, mf7, mf8, mf9, mf10, mf11, mf12, mf13, mf14, mf15, mf16, mf17, mf18, mf19, mf20, mf21, mf22, mf23, mf24, mf25, mf26, mf27, ma54, ma55, ma56, ma57, ma58, ma59, ma60, ma61, ma62, ma63, ma64, ma65, ma66, ma67, ma68, ma69, ma70, ma71, Int.reduceEq, Int.reduceLT, Int.reduceLE, ↓reduceIte, T5_forgets h1.1 h.1 hl]
/-- a KIND or a FIGURE is another -/
def kfD (d : ST) (i p : Nat) (v : Int) : ST := setL d i ((d.2 i).set p v)
theorem kfD_kfD (d : ST) (i p : Nat) (v w : Int) : kfD (kfD d i p v) i p w = kfD d i p w := by
  unfold kfD
  refine ST_ext (fun _ => rfl) (fun j => ?_)
  simp only [setL_2, if_true]
  by_cases q : j = i
  · rw [if_pos q, if_pos q, List.set_set]
  · rw [if_neg q, if_neg q, if_neg q]
theorem kfD_self (d : ST) (i p : Nat) : kfD d i p ((d.2 i).getD p 0) = d := by
  unfold kfD
  refine ST_ext (fun _ => rfl) (fun j => ?_)
  simp only [setL_2]
  by_cases q : j = i
  · rw [if_pos q, set_self, q]
  · rw [if_neg q]
/-- the bits of those that fit -/
def fiF (d : ST) (i p c N : Nat) (row : List Int) (v : Nat) (s : Int) : Int := if tol row c N 0 (kfD d i p (v : Int)) = true then or32 s (shl32 1 (v : Int)) else s
theorem T3_fitting0 (hg : GL g) {N c p : Nat} (hN : g.1 2 = (N : Int)) (h16 : N ≤ 16) (h : DW n) (hmi : DL mi) (hc : (c : Int) < n.1 1) (hp : (p : Int) < n.1 0) : ∃ d', DL d' ∧ ev X m_X3_fitting 0 [vR 23, vR 1, vI (c : Int), vI (p : Int), vI 0, vR 50, vS, vS, vS] [] (cpt mem n t mi la g) = some (some (vI (itr (fiF n 1 p c N (g.2 2)) 6 0 0)), cpt mem n t d' la g) := by
  have h0 := h.2.1.1
  have h6 := h.2.1.2
  have hL := h.1
  obtain ⟨l1, l2, l3, l4, l5, l6, l7, l8, l9, l10⟩ := id hL
  have p6 : p < 6 := by omega
  have key : ∀ (m v : Nat) (s : Int) (e : ST), DL e → v + m = 6 → ∃ d', DL d' ∧ ev X m_X3_fitting 20 [vR 23, vR 1, vI (c : Int), vI (p : Int), vI 0, vR 50, vI s, vI 6, vI (v : Int)] [] (cpt mem n t e la g) = some (some (vI (itr (fiF n 1 p c N (g.2 2)) m v s)), cpt mem n t d' la g) := by
    intro m
    induction m with
    | zero =>
      intro v s e he hv
      have c1 : ¬ (v : Int) < 6 := by omega
      refine ⟨e, he, ?_⟩
      rw [eX3_fitting_20]
      simp only [eX3_fitting_0, eX3_fitting_1, eX3_fitting_3, eX3_fitting_5, eX3_fitting_8, eX3_fitting_10, eX3_fitting_13, eX3_fitting_15, eX3_fitting_17, eX3_fitting_18, eX3_fitting_22, eX3_fitting_24, eX3_fitting_27, eX3_fitting_28, eX3_fitting_29, eX3_fitting_32, eX3_fitting_35, eX3_fitting_36, eX3_fitting_39, eX3_fitting_40, eX3_fitting_43, eX3_fitting_45, eX3_fitting_48, eX3_fitting_49, eX3_fitting_52, eX3_fitting_55, eX3_fitting_56, eX3_fitting_58, eX3_fitting_59, eX3_fitting_62, eX3_fitting_63, eX3_fitting_66, eX3_fitting_69, eX3_fitting_70, eX3_fitting_72, eX3_fitting_73, eX3_fitting_74, eX3_fitting_75, eX3_fitting_77, eX3_fitting_80, eX3_fitting_83, eX3_fitting_85, eX3_fitting_86, eX3_fitting_88, eX3_fitting_89, eX3_fitting_90, eX3_fitting_92, eX3_fitting_95, eX3_fitting_98, eX3_fitting_100, evb_some, evm_some, evc_some, evc_none, gd, if_true, if_false, eq_self, and_self, and_true, true_and, ne_eq, not_false_eq_true, or_true, true_or, cf0_0, cf0_1, cf0_2, cf0_3, cf0_4, cf0_5, cf0_6, cf23_0, cf23_1, cf23_2, cf23_3, cf48_0, cf48_1, cf50_0, cf50_1, cg0, cg23, cg48, cg50, cg1, cg12, cg24, cg35, Int.reduceEq, Int.reduceLT, Int.reduceLE, ↓reduceIte, c1, itr]
    | succ m ih =>
      intro v s e he hv
      have c1 : (v : Int) < 6 := by omega
      have hD : DW (setL n 1 ((n.2 1).set p (v : Int))) := DW_kind h
      obtain ⟨e', h1, h2⟩ := T3_goesAsTold (X := X) (mem := mem) (n := n) (t := t) (la := la) hg hN h16 hD hc
      obtain ⟨d', h3, h4⟩ := ih (v + 1) (fiF n 1 p c N (g.2 2) v s) e' h1.1 (by omega)
      refine ⟨d', h3, ?_⟩
      rw [eX3_fitting_20]
      unfold fiF kfD at h4 ⊢
      by_cases q : tol (g.2 2) c N 0 (setL n 1 ((n.2 1).set p (v : Int))) = true
      · rw [if_pos q] at h2
        simp only [if_pos q] at h4
        simp only [eX3_fitting_0, eX3_fitting_1, eX3_fitting_3, eX3_fitting_5, eX3_fitting_8, eX3_fitting_10, eX3_fitting_13, eX3_fitting_15, eX3_fitting_17, eX3_fitting_18, eX3_fitting_22, eX3_fitting_24, eX3_fitting_27, eX3_fitting_28, eX3_fitting_29, eX3_fitting_32, eX3_fitting_35, eX3_fitting_36, eX3_fitting_39, eX3_fitting_40, eX3_fitting_43, eX3_fitting_45, eX3_fitting_48, eX3_fitting_49, eX3_fitting_52, eX3_fitting_55, eX3_fitting_56, eX3_fitting_58, eX3_fitting_59, eX3_fitting_62, eX3_fitting_63, eX3_fitting_66, eX3_fitting_69, eX3_fitting_70, eX3_fitting_72, eX3_fitting_73, eX3_fitting_74, eX3_fitting_75, eX3_fitting_77, eX3_fitting_80, eX3_fitting_83, eX3_fitting_85, eX3_fitting_86, eX3_fitting_88, eX3_fitting_89, eX3_fitting_90, eX3_fitting_92, eX3_fitting_95, eX3_fitting_98, eX3_fitting_100, evb_some, evm_some, evc_some, evc_none, gd, if_true, if_false, eq_self, and_self, and_true, true_and, ne_eq, not_false_eq_true, or_true, true_or, cf0_0, cf0_1, cf0_2, cf0_3, cf0_4, cf0_5, cf0_6, cf23_0, cf23_1, cf23_2, cf23_3, cf48_0, cf48_1, cf50_0, cf50_1, cg0, cg23, cg48, cg50, cg1, cg12, cg24, cg35, Int.reduceEq, Int.reduceLT, Int.reduceLE, ↓reduceIte, q1_0, q1_1, q1_2, q1_3, q1_4, q1_5, q1_6, q1_7, q1_8, q1_9, q1_10, q1_11, q1_12, q12_0, q12_1, q12_2, q12_3, q12_4, q12_5, q12_6, q12_7, q12_8, q12_9, q12_10, q12_11, q12_12, q24_0, q24_1, q24_2, q24_3, q24_4, q24_5, q24_6, q24_7, q24_8, q24_9, q24_10, q24_11, q24_12, q35_0, q35_1, q35_2, q35_3, q35_4, q35_5, q35_6, q35_7, q35_8, q35_9, q35_10, q35_11, q35_12, qp1_0, qp1_1, qp1_2, qs1_1, qs1_2, qs1_3, qs1_4, qs1_5, qs1_6, qs1_7, qs1_8, qs1_9, qs1_10, qp12_0, qp12_1, qp12_2, qs12_1, qs12_2, qs12_3, qs12_4, qs12_5, qs12_6, qs12_7, qs12_8, qs12_9, qs12_10, qp24_0, qp24_1, qp24_2, qs24_1, qs24_2, qs24_3, qs24_4, qs24_5, qs24_6, qs24_7, qs24_8, qs24_9, qs24_10, qp35_0, qp35_1, qp35_2, qs35_1, qs35_2, qs35_3, qs35_4, qs35_5, qs35_6, qs35_7, qs35_8, qs35_9, qs35_10, c1, n_hasPersonY (show 0 ≤ (p : Int) ∧ (p : Int) < n.1 0 by omega), b24_1 he hL, l1, p6, h2, itr, if_pos q, w32_k1 (show v < 2147483647 by omega)]
        exact h4
      · rw [if_neg q] at h2
        simp only [if_neg q] at h4
        simp only [eX3_fitting_0, eX3_fitting_1, eX3_fitting_3, eX3_fitting_5, eX3_fitting_8, eX3_fitting_10, eX3_fitting_13, eX3_fitting_15, eX3_fitting_17, eX3_fitting_18, eX3_fitting_22, eX3_fitting_24, eX3_fitting_27, eX3_fitting_28, eX3_fitting_29, eX3_fitting_32, eX3_fitting_35, eX3_fitting_36, eX3_fitting_39, eX3_fitting_40, eX3_fitting_43, eX3_fitting_45, eX3_fitting_48, eX3_fitting_49, eX3_fitting_52, eX3_fitting_55, eX3_fitting_56, eX3_fitting_58, eX3_fitting_59, eX3_fitting_62, eX3_fitting_63, eX3_fitting_66, eX3_fitting_69, eX3_fitting_70, eX3_fitting_72, eX3_fitting_73, eX3_fitting_74, eX3_fitting_75, eX3_fitting_77, eX3_fitting_80, eX3_fitting_83, eX3_fitting_85, eX3_fitting_86, eX3_fitting_88, eX3_fitting_89, eX3_fitting_90, eX3_fitting_92, eX3_fitting_95, eX3_fitting_98, eX3_fitting_100, evb_some, evm_some, evc_some, evc_none, gd, if_true, if_false, eq_self, and_self, and_true, true_and, ne_eq, not_false_eq_true, or_true, true_or, cf0_0, cf0_1, cf0_2, cf0_3, cf0_4, cf0_5, cf0_6, cf23_0, cf23_1, cf23_2, cf23_3, cf48_0, cf48_1, cf50_0, cf50_1, cg0, cg23, cg48, cg50, cg1, cg12, cg24, cg35, Int.reduceEq, Int.reduceLT, Int.reduceLE, ↓reduceIte, q1_0, q1_1, q1_2, q1_3, q1_4, q1_5, q1_6, q1_7, q1_8, q1_9, q1_10, q1_11, q1_12, q12_0, q12_1, q12_2, q12_3, q12_4, q12_5, q12_6, q12_7, q12_8, q12_9, q12_10, q12_11, q12_12, q24_0, q24_1, q24_2, q24_3, q24_4, q24_5, q24_6, q24_7, q24_8, q24_9, q24_10, q24_11, q24_12, q35_0, q35_1, q35_2, q35_3, q35_4, q35_5, q35_6, q35_7, q35_8, q35_9, q35_10, q35_11, q35_12, qp1_0, qp1_1, qp1_2, qs1_1, qs1_2, qs1_3, qs1_4, qs1_5, qs1_6, qs1_7, qs1_8, qs1_9, qs1_10, qp12_0, qp12_1, qp12_2, qs12_1, qs12_2, qs12_3, qs12_4, qs12_5, qs12_6, qs12_7, qs12_8, qs12_9, qs12_10, qp24_0, qp24_1, qp24_2, qs24_1, qs24_2, qs24_3, qs24_4, qs24_5, qs24_6, qs24_7, qs24_8, qs24_9, qs24_10, qp35_0, qp35_1, qp35_2, qs35_1, qs35_2, qs35_3, qs35_4, qs35_5, qs35_6, qs35_7, qs35_8, qs35_9, qs35_10, c1, n_hasPersonY (show 0 ≤ (p : Int) ∧ (p : Int) < n.1 0 by omega), b24_1 he hL, l1, p6, h2, itr, if_neg q, w32_k1 (show v < 2147483647 by omega)]
        exact h4
  obtain ⟨d', h3, h4⟩ := key 6 0 0 mi hmi (by omega)
  refine ⟨d', h3, Eq.trans ?_ h4⟩
  simp only [eX3_fitting_0, eX3_fitting_1, eX3_fitting_3, eX3_fitting_5, eX3_fitting_8, eX3_fitting_10, eX3_fitting_13, eX3_fitting_15, eX3_fitting_17, eX3_fitting_18, evb_some, evm_some, evc_some, evc_none, gd, if_true, if_false, eq_self, and_self, and_true, true_and, ne_eq, not_false_eq_true, or_true, true_or, cf0_0, cf0_1, cf0_2, cf0_3, cf0_4, cf0_5, cf0_6, cf23_0, cf23_1, cf23_2, cf23_3, cf48_0, cf48_1, cf50_0, cf50_1, cg0, cg23, cg48, cg50, cg1, cg12, cg24, cg35, Int.reduceEq, Int.reduceLT, Int.reduceLE, ↓reduceIte]
  rfl
theorem T5_bitsFor0 (hm : ML g) {N c p : Nat} (hN : g.1 6 = (N : Int)) (h16 : N ≤ 16) (h : DW d) (hc : (c : Int) < d.1 1) (hp : (p : Int) < d.1 0) : ∃ g', GQ g g' 206 ∧ ev X m_X5_bitsFor 0 [vR 53, vR 55, vI (p : Int), vI 6, vI (c : Int), vS, vS, vS] [] (mpt mem g d) = some (some (vI (itr (fiF d 1 p c N (g.2 7)) 6 0 0)), mpt mem g' d) := by
  have h0 := h.2.1.1
  have h6 := h.2.1.2
  have hL := h.1
  obtain ⟨l1, l2, l3, l4, l5, l6, l7, l8, l9, l10⟩ := id hL
  have p6 : p < 6 := by omega
  have hl : (g.2 5).length = 309 := hm.2.2.2.2.2.1
  have key : ∀ (m v : Nat) (s : Int) (e g1 : ST), w32 s = s → GQ g g1 206 → DW e → e.1 1 = d.1 1 → (∀ w : Int, kfD e 1 p w = kfD d 1 p w) → v + m = 6 → ∃ g', GQ g g' 206 ∧ ev X m_X5_bitsFor 11 [vR 53, vR 55, vI (p : Int), vI 6, vI (c : Int), vI ((d.2 1).getD p 0), vI s, vI (v : Int)] [] (mpt mem g1 e) = some (some (vI (itr (fiF d 1 p c N (g.2 7)) m v s)), mpt mem g' d) := by
    intro m
    induction m with
    | zero =>
      intro v s e g1 hs hg1 he he1 hk hv
      have c1 : ¬ (v : Int) < 6 := by omega
      have el1 : (e.2 1).length = 6 := he.1.1
      have hb : setL e 1 ((e.2 1).set p ((d.2 1).getD p 0)) = d := (hk ((d.2 1).getD p 0)).trans (kfD_self d 1 p)
      refine ⟨g1, hg1, ?_⟩
      rw [eX5_bitsFor_11]
      simp only [eX5_bitsFor_0, eX5_bitsFor_1, eX5_bitsFor_2, eX5_bitsFor_3, eX5_bitsFor_5, eX5_bitsFor_6, eX5_bitsFor_8, eX5_bitsFor_9, eX5_bitsFor_13, eX5_bitsFor_14, eX5_bitsFor_17, eX5_bitsFor_18, eX5_bitsFor_19, eX5_bitsFor_21, eX5_bitsFor_22, eX5_bitsFor_24, eX5_bitsFor_25, eX5_bitsFor_27, eX5_bitsFor_30, eX5_bitsFor_33, eX5_bitsFor_34, eX5_bitsFor_36, eX5_bitsFor_37, eX5_bitsFor_40, eX5_bitsFor_41, eX5_bitsFor_42, eX5_bitsFor_44, eX5_bitsFor_47, eX5_bitsFor_50, eX5_bitsFor_51, eX5_bitsFor_52, eX5_bitsFor_54, eX5_bitsFor_55, eX5_bitsFor_57, evb_some, evm_some, evc_some, evc_none, gd, if_true, if_false, eq_self, and_self, and_true, true_and, ne_eq, not_false_eq_true, or_true, true_or, mg, mf0, mf1, mf2, mf3, mf4, mf5, mf6, mf7, mf8, mf9, mf10, mf11, mf12, mf13, mf14, mf15, mf16, mf17, mf18, mf19, mf20, mf21, mf22, mf23, mf24, mf25, mf26, mf27, ma54, ma55, ma56, ma57, ma58, ma59, ma60, ma61, ma62, ma63, ma64, ma65, ma66, ma67, ma68, ma69, ma70, ma71, Int.reduceEq, Int.reduceLT, Int.reduceLE, ↓reduceIte, mw11, mw12, mw13, mw18, mw19, mw20, mw22, mw23, mw24, mw27, mx54, mx55, mx56, mx57, mx58, mx59, mx60, mx61, mx62, mx63, mx64, mx65, mx66, mx67, mx68, mx69, mx70, mx71, c1, itr, el1, p6, hb]
    | succ m ih =>
      intro v s e g1 hs hg1 he he1 hk hv
      have c1 : (v : Int) < 6 := by omega
      have el1 : (e.2 1).length = 6 := he.1.1
      have hb : setL e 1 ((e.2 1).set p (v : Int)) = kfD d 1 p (v : Int) := hk (v : Int)
      have hD : DW (kfD d 1 p (v : Int)) := DW_kind h
      obtain ⟨m0, m1, m2, m3, m4, m5, m6, m7⟩ := id hm
      have hm1 : ML g1 := ⟨by rw [hg1.2.1 0 (by decide)]; exact m0, by rw [hg1.2.1 1 (by decide)]; exact m1, by rw [hg1.2.1 2 (by decide)]; exact m2, by rw [hg1.2.1 3 (by decide)]; exact m3, by rw [hg1.2.1 4 (by decide)]; exact m4, hg1.2.2.1, by rw [hg1.2.1 6 (by decide)]; exact m6, by rw [hg1.2.1 7 (by decide)]; exact m7⟩
      have hso := T5_isSo (X := X) (mem := mem) (g := g1) (N := N) (c := c) hD hm1 (by rw [hg1.1 6 (by decide) (by decide)]; exact hN) h16 hc
      rw [hg1.2.1 7 (by decide)] at hso
      have hq := GQ_trans hg1 (GQ_gTh (d := kfD d 1 p (v : Int)) hg1.2.2.1)
      have hs2 : w32 (fiF d 1 p c N (g.2 7) v s) = fiF d 1 p c N (g.2 7) v s := by
        unfold fiF
        split
        · exact w32_or _ _
        · exact hs
      obtain ⟨g', h3, h4⟩ := ih (v + 1) (fiF d 1 p c N (g.2 7) v s) (kfD d 1 p (v : Int)) (gTh g1 (kfD d 1 p (v : Int))) hs2 hq hD rfl (fun w => kfD_kfD d 1 p _ w) (by omega)
      refine ⟨g', h3, ?_⟩
      rw [eX5_bitsFor_11]
      unfold fiF at h4 ⊢
      by_cases q : tol (g.2 7) c N 0 (kfD d 1 p (v : Int)) = true
      · rw [if_pos q] at hso
        simp only [if_pos q] at h4
        simp only [eX5_bitsFor_0, eX5_bitsFor_1, eX5_bitsFor_2, eX5_bitsFor_3, eX5_bitsFor_5, eX5_bitsFor_6, eX5_bitsFor_8, eX5_bitsFor_9, eX5_bitsFor_13, eX5_bitsFor_14, eX5_bitsFor_17, eX5_bitsFor_18, eX5_bitsFor_19, eX5_bitsFor_21, eX5_bitsFor_22, eX5_bitsFor_24, eX5_bitsFor_25, eX5_bitsFor_27, eX5_bitsFor_30, eX5_bitsFor_33, eX5_bitsFor_34, eX5_bitsFor_36, eX5_bitsFor_37, eX5_bitsFor_40, eX5_bitsFor_41, eX5_bitsFor_42, eX5_bitsFor_44, eX5_bitsFor_47, eX5_bitsFor_50, eX5_bitsFor_51, eX5_bitsFor_52, eX5_bitsFor_54, eX5_bitsFor_55, eX5_bitsFor_57, evb_some, evm_some, evc_some, evc_none, gd, if_true, if_false, eq_self, and_self, and_true, true_and, ne_eq, not_false_eq_true, or_true, true_or, mg, mf0, mf1, mf2, mf3, mf4, mf5, mf6, mf7, mf8, mf9, mf10, mf11, mf12, mf13, mf14, mf15, mf16, mf17, mf18, mf19, mf20, mf21, mf22, mf23, mf24, mf25, mf26, mf27, ma54, ma55, ma56, ma57, ma58, ma59, ma60, ma61, ma62, ma63, ma64, ma65, ma66, ma67, ma68, ma69, ma70, ma71, Int.reduceEq, Int.reduceLT, Int.reduceLE, ↓reduceIte, mw11, mw12, mw13, mw18, mw19, mw20, mw22, mw23, mw24, mw27, mx54, mx55, mx56, mx57, mx58, mx59, mx60, mx61, mx62, mx63, mx64, mx65, mx66, mx67, mx68, mx69, mx70, mx71, c1, el1, p6, hb, hso, itr, if_pos q, w32_k1 (show v < 2147483647 by omega)]
        exact h4
      · rw [if_neg q] at hso
        simp only [if_neg q] at h4
        simp only [eX5_bitsFor_0, eX5_bitsFor_1, eX5_bitsFor_2, eX5_bitsFor_3, eX5_bitsFor_5, eX5_bitsFor_6, eX5_bitsFor_8, eX5_bitsFor_9, eX5_bitsFor_13, eX5_bitsFor_14, eX5_bitsFor_17, eX5_bitsFor_18, eX5_bitsFor_19, eX5_bitsFor_21, eX5_bitsFor_22, eX5_bitsFor_24, eX5_bitsFor_25, eX5_bitsFor_27, eX5_bitsFor_30, eX5_bitsFor_33, eX5_bitsFor_34, eX5_bitsFor_36, eX5_bitsFor_37, eX5_bitsFor_40, eX5_bitsFor_41, eX5_bitsFor_42, eX5_bitsFor_44, eX5_bitsFor_47, eX5_bitsFor_50, eX5_bitsFor_51, eX5_bitsFor_52, eX5_bitsFor_54, eX5_bitsFor_55, eX5_bitsFor_57, evb_some, evm_some, evc_some, evc_none, gd, if_true, if_false, eq_self, and_self, and_true, true_and, ne_eq, not_false_eq_true, or_true, true_or, mg, mf0, mf1, mf2, mf3, mf4, mf5, mf6, mf7, mf8, mf9, mf10, mf11, mf12, mf13, mf14, mf15, mf16, mf17, mf18, mf19, mf20, mf21, mf22, mf23, mf24, mf25, mf26, mf27, ma54, ma55, ma56, ma57, ma58, ma59, ma60, ma61, ma62, ma63, ma64, ma65, ma66, ma67, ma68, ma69, ma70, ma71, Int.reduceEq, Int.reduceLT, Int.reduceLE, ↓reduceIte, mw11, mw12, mw13, mw18, mw19, mw20, mw22, mw23, mw24, mw27, mx54, mx55, mx56, mx57, mx58, mx59, mx60, mx61, mx62, mx63, mx64, mx65, mx66, mx67, mx68, mx69, mx70, mx71, c1, el1, p6, hb, hso, itr, if_neg q, or32_0 hs, w32_k1 (show v < 2147483647 by omega)]
        exact h4
  obtain ⟨g', h3, h4⟩ := key 6 0 0 d g (by decide) (GQ_rfl hl) h rfl (fun _ => rfl) (by omega)
  refine ⟨g', h3, Eq.trans ?_ h4⟩
  simp only [eX5_bitsFor_0, eX5_bitsFor_1, eX5_bitsFor_2, eX5_bitsFor_3, eX5_bitsFor_5, eX5_bitsFor_6, eX5_bitsFor_8, eX5_bitsFor_9, evb_some, evm_some, evc_some, evc_none, gd, if_true, if_false, eq_self, and_self, and_true, true_and, ne_eq, not_false_eq_true, or_true, true_or, mg, mf0, mf1, mf2, mf3, mf4, mf5, mf6, mf7, mf8, mf9, mf10, mf11, mf12, mf13, mf14, mf15, mf16, mf17, mf18, mf19, mf20, mf21, mf22, mf23, mf24, mf25, mf26, mf27, ma54, ma55, ma56, ma57, ma58, ma59, ma60, ma61, ma62, ma63, ma64, ma65, ma66, ma67, ma68, ma69, ma70, ma71, Int.reduceEq, Int.reduceLT, Int.reduceLE, ↓reduceIte, l1, p6]
  rfl
theorem T3_fitting1 (hg : GL g) {N c p : Nat} (hN : g.1 2 = (N : Int)) (h16 : N ≤ 16) (h : DW n) (hmi : DL mi) (hc : (c : Int) < n.1 1) (hp : (p : Int) < n.1 0) : ∃ d', DL d' ∧ ev X m_X3_fitting 0 [vR 23, vR 1, vI (c : Int), vI (p : Int), vI 1, vR 50, vS, vS, vS] [] (cpt mem n t mi la g) = some (some (vI (itr (fiF n 2 p c N (g.2 2)) 10 0 0)), cpt mem n t d' la g) := by
  have h0 := h.2.1.1
  have h6 := h.2.1.2
  have hL := h.1
  obtain ⟨l1, l2, l3, l4, l5, l6, l7, l8, l9, l10⟩ := id hL
  have p6 : p < 6 := by omega
  have key : ∀ (m v : Nat) (s : Int) (e : ST), DL e → v + m = 10 → ∃ d', DL d' ∧ ev X m_X3_fitting 20 [vR 23, vR 1, vI (c : Int), vI (p : Int), vI 1, vR 50, vI s, vI 10, vI (v : Int)] [] (cpt mem n t e la g) = some (some (vI (itr (fiF n 2 p c N (g.2 2)) m v s)), cpt mem n t d' la g) := by
    intro m
    induction m with
    | zero =>
      intro v s e he hv
      have c1 : ¬ (v : Int) < 10 := by omega
      refine ⟨e, he, ?_⟩
      rw [eX3_fitting_20]
      simp only [eX3_fitting_0, eX3_fitting_1, eX3_fitting_3, eX3_fitting_5, eX3_fitting_8, eX3_fitting_10, eX3_fitting_13, eX3_fitting_15, eX3_fitting_17, eX3_fitting_18, eX3_fitting_22, eX3_fitting_24, eX3_fitting_27, eX3_fitting_28, eX3_fitting_29, eX3_fitting_32, eX3_fitting_35, eX3_fitting_36, eX3_fitting_39, eX3_fitting_40, eX3_fitting_43, eX3_fitting_45, eX3_fitting_48, eX3_fitting_49, eX3_fitting_52, eX3_fitting_55, eX3_fitting_56, eX3_fitting_58, eX3_fitting_59, eX3_fitting_62, eX3_fitting_63, eX3_fitting_66, eX3_fitting_69, eX3_fitting_70, eX3_fitting_72, eX3_fitting_73, eX3_fitting_74, eX3_fitting_75, eX3_fitting_77, eX3_fitting_80, eX3_fitting_83, eX3_fitting_85, eX3_fitting_86, eX3_fitting_88, eX3_fitting_89, eX3_fitting_90, eX3_fitting_92, eX3_fitting_95, eX3_fitting_98, eX3_fitting_100, evb_some, evm_some, evc_some, evc_none, gd, if_true, if_false, eq_self, and_self, and_true, true_and, ne_eq, not_false_eq_true, or_true, true_or, cf0_0, cf0_1, cf0_2, cf0_3, cf0_4, cf0_5, cf0_6, cf23_0, cf23_1, cf23_2, cf23_3, cf48_0, cf48_1, cf50_0, cf50_1, cg0, cg23, cg48, cg50, cg1, cg12, cg24, cg35, Int.reduceEq, Int.reduceLT, Int.reduceLE, ↓reduceIte, c1, itr]
    | succ m ih =>
      intro v s e he hv
      have c1 : (v : Int) < 10 := by omega
      have hD : DW (setL n 2 ((n.2 2).set p (v : Int))) := DW_figure h
      obtain ⟨e', h1, h2⟩ := T3_goesAsTold (X := X) (mem := mem) (n := n) (t := t) (la := la) hg hN h16 hD hc
      obtain ⟨d', h3, h4⟩ := ih (v + 1) (fiF n 2 p c N (g.2 2) v s) e' h1.1 (by omega)
      refine ⟨d', h3, ?_⟩
      rw [eX3_fitting_20]
      unfold fiF kfD at h4 ⊢
      by_cases q : tol (g.2 2) c N 0 (setL n 2 ((n.2 2).set p (v : Int))) = true
      · rw [if_pos q] at h2
        simp only [if_pos q] at h4
        simp only [eX3_fitting_0, eX3_fitting_1, eX3_fitting_3, eX3_fitting_5, eX3_fitting_8, eX3_fitting_10, eX3_fitting_13, eX3_fitting_15, eX3_fitting_17, eX3_fitting_18, eX3_fitting_22, eX3_fitting_24, eX3_fitting_27, eX3_fitting_28, eX3_fitting_29, eX3_fitting_32, eX3_fitting_35, eX3_fitting_36, eX3_fitting_39, eX3_fitting_40, eX3_fitting_43, eX3_fitting_45, eX3_fitting_48, eX3_fitting_49, eX3_fitting_52, eX3_fitting_55, eX3_fitting_56, eX3_fitting_58, eX3_fitting_59, eX3_fitting_62, eX3_fitting_63, eX3_fitting_66, eX3_fitting_69, eX3_fitting_70, eX3_fitting_72, eX3_fitting_73, eX3_fitting_74, eX3_fitting_75, eX3_fitting_77, eX3_fitting_80, eX3_fitting_83, eX3_fitting_85, eX3_fitting_86, eX3_fitting_88, eX3_fitting_89, eX3_fitting_90, eX3_fitting_92, eX3_fitting_95, eX3_fitting_98, eX3_fitting_100, evb_some, evm_some, evc_some, evc_none, gd, if_true, if_false, eq_self, and_self, and_true, true_and, ne_eq, not_false_eq_true, or_true, true_or, cf0_0, cf0_1, cf0_2, cf0_3, cf0_4, cf0_5, cf0_6, cf23_0, cf23_1, cf23_2, cf23_3, cf48_0, cf48_1, cf50_0, cf50_1, cg0, cg23, cg48, cg50, cg1, cg12, cg24, cg35, Int.reduceEq, Int.reduceLT, Int.reduceLE, ↓reduceIte, q1_0, q1_1, q1_2, q1_3, q1_4, q1_5, q1_6, q1_7, q1_8, q1_9, q1_10, q1_11, q1_12, q12_0, q12_1, q12_2, q12_3, q12_4, q12_5, q12_6, q12_7, q12_8, q12_9, q12_10, q12_11, q12_12, q24_0, q24_1, q24_2, q24_3, q24_4, q24_5, q24_6, q24_7, q24_8, q24_9, q24_10, q24_11, q24_12, q35_0, q35_1, q35_2, q35_3, q35_4, q35_5, q35_6, q35_7, q35_8, q35_9, q35_10, q35_11, q35_12, qp1_0, qp1_1, qp1_2, qs1_1, qs1_2, qs1_3, qs1_4, qs1_5, qs1_6, qs1_7, qs1_8, qs1_9, qs1_10, qp12_0, qp12_1, qp12_2, qs12_1, qs12_2, qs12_3, qs12_4, qs12_5, qs12_6, qs12_7, qs12_8, qs12_9, qs12_10, qp24_0, qp24_1, qp24_2, qs24_1, qs24_2, qs24_3, qs24_4, qs24_5, qs24_6, qs24_7, qs24_8, qs24_9, qs24_10, qp35_0, qp35_1, qp35_2, qs35_1, qs35_2, qs35_3, qs35_4, qs35_5, qs35_6, qs35_7, qs35_8, qs35_9, qs35_10, c1, n_hasPersonY (show 0 ≤ (p : Int) ∧ (p : Int) < n.1 0 by omega), b24_1 he hL, l2, p6, h2, itr, if_pos q, w32_k1 (show v < 2147483647 by omega)]
        exact h4
      · rw [if_neg q] at h2
        simp only [if_neg q] at h4
        simp only [eX3_fitting_0, eX3_fitting_1, eX3_fitting_3, eX3_fitting_5, eX3_fitting_8, eX3_fitting_10, eX3_fitting_13, eX3_fitting_15, eX3_fitting_17, eX3_fitting_18, eX3_fitting_22, eX3_fitting_24, eX3_fitting_27, eX3_fitting_28, eX3_fitting_29, eX3_fitting_32, eX3_fitting_35, eX3_fitting_36, eX3_fitting_39, eX3_fitting_40, eX3_fitting_43, eX3_fitting_45, eX3_fitting_48, eX3_fitting_49, eX3_fitting_52, eX3_fitting_55, eX3_fitting_56, eX3_fitting_58, eX3_fitting_59, eX3_fitting_62, eX3_fitting_63, eX3_fitting_66, eX3_fitting_69, eX3_fitting_70, eX3_fitting_72, eX3_fitting_73, eX3_fitting_74, eX3_fitting_75, eX3_fitting_77, eX3_fitting_80, eX3_fitting_83, eX3_fitting_85, eX3_fitting_86, eX3_fitting_88, eX3_fitting_89, eX3_fitting_90, eX3_fitting_92, eX3_fitting_95, eX3_fitting_98, eX3_fitting_100, evb_some, evm_some, evc_some, evc_none, gd, if_true, if_false, eq_self, and_self, and_true, true_and, ne_eq, not_false_eq_true, or_true, true_or, cf0_0, cf0_1, cf0_2, cf0_3, cf0_4, cf0_5, cf0_6, cf23_0, cf23_1, cf23_2, cf23_3, cf48_0, cf48_1, cf50_0, cf50_1, cg0, cg23, cg48, cg50, cg1, cg12, cg24, cg35, Int.reduceEq, Int.reduceLT, Int.reduceLE, ↓reduceIte, q1_0, q1_1, q1_2, q1_3, q1_4, q1_5, q1_6, q1_7, q1_8, q1_9, q1_10, q1_11, q1_12, q12_0, q12_1, q12_2, q12_3, q12_4, q12_5, q12_6, q12_7, q12_8, q12_9, q12_10, q12_11, q12_12, q24_0, q24_1, q24_2, q24_3, q24_4, q24_5, q24_6, q24_7, q24_8, q24_9, q24_10, q24_11, q24_12, q35_0, q35_1, q35_2, q35_3, q35_4, q35_5, q35_6, q35_7, q35_8, q35_9, q35_10, q35_11, q35_12, qp1_0, qp1_1, qp1_2, qs1_1, qs1_2, qs1_3, qs1_4, qs1_5, qs1_6, qs1_7, qs1_8, qs1_9, qs1_10, qp12_0, qp12_1, qp12_2, qs12_1, qs12_2, qs12_3, qs12_4, qs12_5, qs12_6, qs12_7, qs12_8, qs12_9, qs12_10, qp24_0, qp24_1, qp24_2, qs24_1, qs24_2, qs24_3, qs24_4, qs24_5, qs24_6, qs24_7, qs24_8, qs24_9, qs24_10, qp35_0, qp35_1, qp35_2, qs35_1, qs35_2, qs35_3, qs35_4, qs35_5, qs35_6, qs35_7, qs35_8, qs35_9, qs35_10, c1, n_hasPersonY (show 0 ≤ (p : Int) ∧ (p : Int) < n.1 0 by omega), b24_1 he hL, l2, p6, h2, itr, if_neg q, w32_k1 (show v < 2147483647 by omega)]
        exact h4
  obtain ⟨d', h3, h4⟩ := key 10 0 0 mi hmi (by omega)
  refine ⟨d', h3, Eq.trans ?_ h4⟩
  simp only [eX3_fitting_0, eX3_fitting_1, eX3_fitting_3, eX3_fitting_5, eX3_fitting_8, eX3_fitting_10, eX3_fitting_13, eX3_fitting_15, eX3_fitting_17, eX3_fitting_18, evb_some, evm_some, evc_some, evc_none, gd, if_true, if_false, eq_self, and_self, and_true, true_and, ne_eq, not_false_eq_true, or_true, true_or, cf0_0, cf0_1, cf0_2, cf0_3, cf0_4, cf0_5, cf0_6, cf23_0, cf23_1, cf23_2, cf23_3, cf48_0, cf48_1, cf50_0, cf50_1, cg0, cg23, cg48, cg50, cg1, cg12, cg24, cg35, Int.reduceEq, Int.reduceLT, Int.reduceLE, ↓reduceIte]
  rfl
theorem T5_bitsFor1 (hm : ML g) {N c p : Nat} (hN : g.1 6 = (N : Int)) (h16 : N ≤ 16) (h : DW d) (hc : (c : Int) < d.1 1) (hp : (p : Int) < d.1 0) : ∃ g', GQ g g' 206 ∧ ev X m_X5_bitsFor 0 [vR 53, vR 56, vI (p : Int), vI 10, vI (c : Int), vS, vS, vS] [] (mpt mem g d) = some (some (vI (itr (fiF d 2 p c N (g.2 7)) 10 0 0)), mpt mem g' d) := by
  have h0 := h.2.1.1
  have h6 := h.2.1.2
  have hL := h.1
  obtain ⟨l1, l2, l3, l4, l5, l6, l7, l8, l9, l10⟩ := id hL
  have p6 : p < 6 := by omega
  have hl : (g.2 5).length = 309 := hm.2.2.2.2.2.1
  have key : ∀ (m v : Nat) (s : Int) (e g1 : ST), w32 s = s → GQ g g1 206 → DW e → e.1 1 = d.1 1 → (∀ w : Int, kfD e 2 p w = kfD d 2 p w) → v + m = 10 → ∃ g', GQ g g' 206 ∧ ev X m_X5_bitsFor 11 [vR 53, vR 56, vI (p : Int), vI 10, vI (c : Int), vI ((d.2 2).getD p 0), vI s, vI (v : Int)] [] (mpt mem g1 e) = some (some (vI (itr (fiF d 2 p c N (g.2 7)) m v s)), mpt mem g' d) := by
    intro m
    induction m with
    | zero =>
      intro v s e g1 hs hg1 he he1 hk hv
      have c1 : ¬ (v : Int) < 10 := by omega
      have el2 : (e.2 2).length = 6 := he.1.2.1
      have hb : setL e 2 ((e.2 2).set p ((d.2 2).getD p 0)) = d := (hk ((d.2 2).getD p 0)).trans (kfD_self d 2 p)
      refine ⟨g1, hg1, ?_⟩
      rw [eX5_bitsFor_11]
      simp only [eX5_bitsFor_0, eX5_bitsFor_1, eX5_bitsFor_2, eX5_bitsFor_3, eX5_bitsFor_5, eX5_bitsFor_6, eX5_bitsFor_8, eX5_bitsFor_9, eX5_bitsFor_13, eX5_bitsFor_14, eX5_bitsFor_17, eX5_bitsFor_18, eX5_bitsFor_19, eX5_bitsFor_21, eX5_bitsFor_22, eX5_bitsFor_24, eX5_bitsFor_25, eX5_bitsFor_27, eX5_bitsFor_30, eX5_bitsFor_33, eX5_bitsFor_34, eX5_bitsFor_36, eX5_bitsFor_37, eX5_bitsFor_40, eX5_bitsFor_41, eX5_bitsFor_42, eX5_bitsFor_44, eX5_bitsFor_47, eX5_bitsFor_50, eX5_bitsFor_51, eX5_bitsFor_52, eX5_bitsFor_54, eX5_bitsFor_55, eX5_bitsFor_57, evb_some, evm_some, evc_some, evc_none, gd, if_true, if_false, eq_self, and_self, and_true, true_and, ne_eq, not_false_eq_true, or_true, true_or, mg, mf0, mf1, mf2, mf3, mf4, mf5, mf6, mf7, mf8, mf9, mf10, mf11, mf12, mf13, mf14, mf15, mf16, mf17, mf18, mf19, mf20, mf21, mf22, mf23, mf24, mf25, mf26, mf27, ma54, ma55, ma56, ma57, ma58, ma59, ma60, ma61, ma62, ma63, ma64, ma65, ma66, ma67, ma68, ma69, ma70, ma71, Int.reduceEq, Int.reduceLT, Int.reduceLE, ↓reduceIte, mw11, mw12, mw13, mw18, mw19, mw20, mw22, mw23, mw24, mw27, mx54, mx55, mx56, mx57, mx58, mx59, mx60, mx61, mx62, mx63, mx64, mx65, mx66, mx67, mx68, mx69, mx70, mx71, c1, itr, el2, p6, hb]
    | succ m ih =>
      intro v s e g1 hs hg1 he he1 hk hv
      have c1 : (v : Int) < 10 := by omega
      have el2 : (e.2 2).length = 6 := he.1.2.1
      have hb : setL e 2 ((e.2 2).set p (v : Int)) = kfD d 2 p (v : Int) := hk (v : Int)
      have hD : DW (kfD d 2 p (v : Int)) := DW_figure h
      obtain ⟨m0, m1, m2, m3, m4, m5, m6, m7⟩ := id hm
      have hm1 : ML g1 := ⟨by rw [hg1.2.1 0 (by decide)]; exact m0, by rw [hg1.2.1 1 (by decide)]; exact m1, by rw [hg1.2.1 2 (by decide)]; exact m2, by rw [hg1.2.1 3 (by decide)]; exact m3, by rw [hg1.2.1 4 (by decide)]; exact m4, hg1.2.2.1, by rw [hg1.2.1 6 (by decide)]; exact m6, by rw [hg1.2.1 7 (by decide)]; exact m7⟩
      have hso := T5_isSo (X := X) (mem := mem) (g := g1) (N := N) (c := c) hD hm1 (by rw [hg1.1 6 (by decide) (by decide)]; exact hN) h16 hc
      rw [hg1.2.1 7 (by decide)] at hso
      have hq := GQ_trans hg1 (GQ_gTh (d := kfD d 2 p (v : Int)) hg1.2.2.1)
      have hs2 : w32 (fiF d 2 p c N (g.2 7) v s) = fiF d 2 p c N (g.2 7) v s := by
        unfold fiF
        split
        · exact w32_or _ _
        · exact hs
      obtain ⟨g', h3, h4⟩ := ih (v + 1) (fiF d 2 p c N (g.2 7) v s) (kfD d 2 p (v : Int)) (gTh g1 (kfD d 2 p (v : Int))) hs2 hq hD rfl (fun w => kfD_kfD d 2 p _ w) (by omega)
      refine ⟨g', h3, ?_⟩
      rw [eX5_bitsFor_11]
      unfold fiF at h4 ⊢
      by_cases q : tol (g.2 7) c N 0 (kfD d 2 p (v : Int)) = true
      · rw [if_pos q] at hso
        simp only [if_pos q] at h4
        simp only [eX5_bitsFor_0, eX5_bitsFor_1, eX5_bitsFor_2, eX5_bitsFor_3, eX5_bitsFor_5, eX5_bitsFor_6, eX5_bitsFor_8, eX5_bitsFor_9, eX5_bitsFor_13, eX5_bitsFor_14, eX5_bitsFor_17, eX5_bitsFor_18, eX5_bitsFor_19, eX5_bitsFor_21, eX5_bitsFor_22, eX5_bitsFor_24, eX5_bitsFor_25, eX5_bitsFor_27, eX5_bitsFor_30, eX5_bitsFor_33, eX5_bitsFor_34, eX5_bitsFor_36, eX5_bitsFor_37, eX5_bitsFor_40, eX5_bitsFor_41, eX5_bitsFor_42, eX5_bitsFor_44, eX5_bitsFor_47, eX5_bitsFor_50, eX5_bitsFor_51, eX5_bitsFor_52, eX5_bitsFor_54, eX5_bitsFor_55, eX5_bitsFor_57, evb_some, evm_some, evc_some, evc_none, gd, if_true, if_false, eq_self, and_self, and_true, true_and, ne_eq, not_false_eq_true, or_true, true_or, mg, mf0, mf1, mf2, mf3, mf4, mf5, mf6, mf7, mf8, mf9, mf10, mf11, mf12, mf13, mf14, mf15, mf16, mf17, mf18, mf19, mf20, mf21, mf22, mf23, mf24, mf25, mf26, mf27, ma54, ma55, ma56, ma57, ma58, ma59, ma60, ma61, ma62, ma63, ma64, ma65, ma66, ma67, ma68, ma69, ma70, ma71, Int.reduceEq, Int.reduceLT, Int.reduceLE, ↓reduceIte, mw11, mw12, mw13, mw18, mw19, mw20, mw22, mw23, mw24, mw27, mx54, mx55, mx56, mx57, mx58, mx59, mx60, mx61, mx62, mx63, mx64, mx65, mx66, mx67, mx68, mx69, mx70, mx71, c1, el2, p6, hb, hso, itr, if_pos q, w32_k1 (show v < 2147483647 by omega)]
        exact h4
      · rw [if_neg q] at hso
        simp only [if_neg q] at h4
        simp only [eX5_bitsFor_0, eX5_bitsFor_1, eX5_bitsFor_2, eX5_bitsFor_3, eX5_bitsFor_5, eX5_bitsFor_6, eX5_bitsFor_8, eX5_bitsFor_9, eX5_bitsFor_13, eX5_bitsFor_14, eX5_bitsFor_17, eX5_bitsFor_18, eX5_bitsFor_19, eX5_bitsFor_21, eX5_bitsFor_22, eX5_bitsFor_24, eX5_bitsFor_25, eX5_bitsFor_27, eX5_bitsFor_30, eX5_bitsFor_33, eX5_bitsFor_34, eX5_bitsFor_36, eX5_bitsFor_37, eX5_bitsFor_40, eX5_bitsFor_41, eX5_bitsFor_42, eX5_bitsFor_44, eX5_bitsFor_47, eX5_bitsFor_50, eX5_bitsFor_51, eX5_bitsFor_52, eX5_bitsFor_54, eX5_bitsFor_55, eX5_bitsFor_57, evb_some, evm_some, evc_some, evc_none, gd, if_true, if_false, eq_self, and_self, and_true, true_and, ne_eq, not_false_eq_true, or_true, true_or, mg, mf0, mf1, mf2, mf3, mf4, mf5, mf6, mf7, mf8, mf9, mf10, mf11, mf12, mf13, mf14, mf15, mf16, mf17, mf18, mf19, mf20, mf21, mf22, mf23, mf24, mf25, mf26, mf27, ma54, ma55, ma56, ma57, ma58, ma59, ma60, ma61, ma62, ma63, ma64, ma65, ma66, ma67, ma68, ma69, ma70, ma71, Int.reduceEq, Int.reduceLT, Int.reduceLE, ↓reduceIte, mw11, mw12, mw13, mw18, mw19, mw20, mw22, mw23, mw24, mw27, mx54, mx55, mx56, mx57, mx58, mx59, mx60, mx61, mx62, mx63, mx64, mx65, mx66, mx67, mx68, mx69, mx70, mx71, c1, el2, p6, hb, hso, itr, if_neg q, or32_0 hs, w32_k1 (show v < 2147483647 by omega)]
        exact h4
  obtain ⟨g', h3, h4⟩ := key 10 0 0 d g (by decide) (GQ_rfl hl) h rfl (fun _ => rfl) (by omega)
  refine ⟨g', h3, Eq.trans ?_ h4⟩
  simp only [eX5_bitsFor_0, eX5_bitsFor_1, eX5_bitsFor_2, eX5_bitsFor_3, eX5_bitsFor_5, eX5_bitsFor_6, eX5_bitsFor_8, eX5_bitsFor_9, evb_some, evm_some, evc_some, evc_none, gd, if_true, if_false, eq_self, and_self, and_true, true_and, ne_eq, not_false_eq_true, or_true, true_or, mg, mf0, mf1, mf2, mf3, mf4, mf5, mf6, mf7, mf8, mf9, mf10, mf11, mf12, mf13, mf14, mf15, mf16, mf17, mf18, mf19, mf20, mf21, mf22, mf23, mf24, mf25, mf26, mf27, ma54, ma55, ma56, ma57, ma58, ma59, ma60, ma61, ma62, ma63, ma64, ma65, ma66, ma67, ma68, ma69, ma70, ma71, Int.reduceEq, Int.reduceLT, Int.reduceLE, ↓reduceIte, l2, p6]
  rfl
theorem B_who (h : Rla n t mi la g gm) (c p w : Int) : Bth X m_X4_who [vI c, vI p, vI w] m_X5_who [vI c, vI p, vI w, vS] mem n t mi la g gm := by
  have hW := h.1; have hL := hW.1; have h6 := hW.2.1.2; have h8 := hW.2.2.1.2; have hg := Rla_g h; have hm := Rla_m h; obtain ⟨l1, l2, l3, l4, l5, l6, l7, l8, l9, l10⟩ := id hL
  obtain ⟨a1, a2, a3, a4, a5, a6, h5, h7, hx8, h9, h10, h11, h12, h13, h14, h15⟩ := id h
  by_cases c1 : 0 ≤ c ∧ c < n.1 1
  case neg => exact Bth_no1 h (fun M => by simp only [eX4_who_0, eX4_who_1, eX4_who_4, eX4_who_5, eX4_who_8, eX4_who_11, eX4_who_12, eX4_who_15, eX4_who_16, eX4_who_19, eX4_who_22, eX4_who_23, eX4_who_24, eX4_who_27, eX4_who_28, eX4_who_29, eX4_who_32, eX4_who_33, eX4_who_34, eX4_who_37, eX4_who_38, eX4_who_40, eX4_who_43, eX4_who_44, eX4_who_45, eX4_who_48, eX4_who_49, eX4_who_52, eX4_who_53, eX4_who_54, eX4_who_55, eX4_who_56, eX4_who_59, eX4_who_60, eX4_who_63, eX4_who_64, eX4_who_65, eX4_who_68, eX4_who_71, evb_some, evm_some, evc_some, evc_none, gd, if_true, if_false, eq_self, and_self, and_true, true_and, ne_eq, not_false_eq_true, or_true, true_or, cf0_0, cf0_1, cf0_2, cf0_3, cf0_4, cf0_5, cf0_6, cf23_0, cf23_1, cf23_2, cf23_3, cf48_0, cf48_1, cf50_0, cf50_1, cg0, cg23, cg48, cg50, cg1, cg12, cg24, cg35, Int.reduceEq, Int.reduceLT, Int.reduceLE, ↓reduceIte, n_hasParcelN c1, T4_no1 hg]) (fun M => by simp only [eX5_who_0, eX5_who_1, eX5_who_2, eX5_who_5, eX5_who_8, eX5_who_9, eX5_who_10, eX5_who_13, eX5_who_16, eX5_who_17, eX5_who_20, eX5_who_21, eX5_who_22, eX5_who_23, eX5_who_26, eX5_who_29, eX5_who_31, eX5_who_34, eX5_who_35, eX5_who_37, eX5_who_39, eX5_who_42, eX5_who_43, eX5_who_45, eX5_who_48, eX5_who_49, eX5_who_50, eX5_who_53, eX5_who_54, eX5_who_55, eX5_who_58, eX5_who_59, eX5_who_61, eX5_who_62, eX5_who_65, eX5_who_68, eX5_who_69, eX5_who_70, eX5_who_73, eX5_who_74, eX5_who_76, eX5_who_77, eX5_who_80, evb_some, evm_some, evc_some, evc_none, gd, if_true, if_false, eq_self, and_self, and_true, true_and, ne_eq, not_false_eq_true, or_true, true_or, mg, mf0, mf1, mf2, mf3, mf4, mf5, mf6, mf7, mf8, mf9, mf10, mf11, mf12, mf13, mf14, mf15, mf16, mf17, mf18, mf19, mf20, mf21, mf22, mf23, mf24, mf25, mf26, mf27, ma54, ma55, ma56, ma57, ma58, ma59, ma60, ma61, ma62, ma63, ma64, ma65, ma66, ma67, ma68, ma69, ma70, ma71, Int.reduceEq, Int.reduceLT, Int.reduceLE, ↓reduceIte, T5_isParcelN c1, T5_no1 hm])
  by_cases c2 : 0 ≤ p ∧ p < n.1 0
  case neg => exact Bth_no1 h (fun M => by simp only [eX4_who_0, eX4_who_1, eX4_who_4, eX4_who_5, eX4_who_8, eX4_who_11, eX4_who_12, eX4_who_15, eX4_who_16, eX4_who_19, eX4_who_22, eX4_who_23, eX4_who_24, eX4_who_27, eX4_who_28, eX4_who_29, eX4_who_32, eX4_who_33, eX4_who_34, eX4_who_37, eX4_who_38, eX4_who_40, eX4_who_43, eX4_who_44, eX4_who_45, eX4_who_48, eX4_who_49, eX4_who_52, eX4_who_53, eX4_who_54, eX4_who_55, eX4_who_56, eX4_who_59, eX4_who_60, eX4_who_63, eX4_who_64, eX4_who_65, eX4_who_68, eX4_who_71, evb_some, evm_some, evc_some, evc_none, gd, if_true, if_false, eq_self, and_self, and_true, true_and, ne_eq, not_false_eq_true, or_true, true_or, cf0_0, cf0_1, cf0_2, cf0_3, cf0_4, cf0_5, cf0_6, cf23_0, cf23_1, cf23_2, cf23_3, cf48_0, cf48_1, cf50_0, cf50_1, cg0, cg23, cg48, cg50, cg1, cg12, cg24, cg35, Int.reduceEq, Int.reduceLT, Int.reduceLE, ↓reduceIte, n_hasParcelY c1, n_hasPersonN c2, T4_no1 hg]) (fun M => by simp only [eX5_who_0, eX5_who_1, eX5_who_2, eX5_who_5, eX5_who_8, eX5_who_9, eX5_who_10, eX5_who_13, eX5_who_16, eX5_who_17, eX5_who_20, eX5_who_21, eX5_who_22, eX5_who_23, eX5_who_26, eX5_who_29, eX5_who_31, eX5_who_34, eX5_who_35, eX5_who_37, eX5_who_39, eX5_who_42, eX5_who_43, eX5_who_45, eX5_who_48, eX5_who_49, eX5_who_50, eX5_who_53, eX5_who_54, eX5_who_55, eX5_who_58, eX5_who_59, eX5_who_61, eX5_who_62, eX5_who_65, eX5_who_68, eX5_who_69, eX5_who_70, eX5_who_73, eX5_who_74, eX5_who_76, eX5_who_77, eX5_who_80, evb_some, evm_some, evc_some, evc_none, gd, if_true, if_false, eq_self, and_self, and_true, true_and, ne_eq, not_false_eq_true, or_true, true_or, mg, mf0, mf1, mf2, mf3, mf4, mf5, mf6, mf7, mf8, mf9, mf10, mf11, mf12, mf13, mf14, mf15, mf16, mf17, mf18, mf19, mf20, mf21, mf22, mf23, mf24, mf25, mf26, mf27, ma54, ma55, ma56, ma57, ma58, ma59, ma60, ma61, ma62, ma63, ma64, ma65, ma66, ma67, ma68, ma69, ma70, ma71, Int.reduceEq, Int.reduceLT, Int.reduceLE, ↓reduceIte, T5_isParcelY c1, T5_isOneN c2, T5_no1 hm])
  by_cases c3 : w < 0
  · exact Bth_no2 h (fun M => by simp only [eX4_who_0, eX4_who_1, eX4_who_4, eX4_who_5, eX4_who_8, eX4_who_11, eX4_who_12, eX4_who_15, eX4_who_16, eX4_who_19, eX4_who_22, eX4_who_23, eX4_who_24, eX4_who_27, eX4_who_28, eX4_who_29, eX4_who_32, eX4_who_33, eX4_who_34, eX4_who_37, eX4_who_38, eX4_who_40, eX4_who_43, eX4_who_44, eX4_who_45, eX4_who_48, eX4_who_49, eX4_who_52, eX4_who_53, eX4_who_54, eX4_who_55, eX4_who_56, eX4_who_59, eX4_who_60, eX4_who_63, eX4_who_64, eX4_who_65, eX4_who_68, eX4_who_71, evb_some, evm_some, evc_some, evc_none, gd, if_true, if_false, eq_self, and_self, and_true, true_and, ne_eq, not_false_eq_true, or_true, true_or, cf0_0, cf0_1, cf0_2, cf0_3, cf0_4, cf0_5, cf0_6, cf23_0, cf23_1, cf23_2, cf23_3, cf48_0, cf48_1, cf50_0, cf50_1, cg0, cg23, cg48, cg50, cg1, cg12, cg24, cg35, Int.reduceEq, Int.reduceLT, Int.reduceLE, ↓reduceIte, n_hasParcelY c1, n_hasPersonY c2, c3, T4_no2 hg]) (fun M => by simp only [eX5_who_0, eX5_who_1, eX5_who_2, eX5_who_5, eX5_who_8, eX5_who_9, eX5_who_10, eX5_who_13, eX5_who_16, eX5_who_17, eX5_who_20, eX5_who_21, eX5_who_22, eX5_who_23, eX5_who_26, eX5_who_29, eX5_who_31, eX5_who_34, eX5_who_35, eX5_who_37, eX5_who_39, eX5_who_42, eX5_who_43, eX5_who_45, eX5_who_48, eX5_who_49, eX5_who_50, eX5_who_53, eX5_who_54, eX5_who_55, eX5_who_58, eX5_who_59, eX5_who_61, eX5_who_62, eX5_who_65, eX5_who_68, eX5_who_69, eX5_who_70, eX5_who_73, eX5_who_74, eX5_who_76, eX5_who_77, eX5_who_80, evb_some, evm_some, evc_some, evc_none, gd, if_true, if_false, eq_self, and_self, and_true, true_and, ne_eq, not_false_eq_true, or_true, true_or, mg, mf0, mf1, mf2, mf3, mf4, mf5, mf6, mf7, mf8, mf9, mf10, mf11, mf12, mf13, mf14, mf15, mf16, mf17, mf18, mf19, mf20, mf21, mf22, mf23, mf24, mf25, mf26, mf27, ma54, ma55, ma56, ma57, ma58, ma59, ma60, ma61, ma62, ma63, ma64, ma65, ma66, ma67, ma68, ma69, ma70, ma71, Int.reduceEq, Int.reduceLT, Int.reduceLE, ↓reduceIte, T5_isParcelY c1, T5_isOneY c2, T5_isIn, show ¬ (0 ≤ w ∧ w ≤ 1) by omega, T5_no2 hm])
  by_cases c4 : 1 < w
  · exact Bth_no2 h (fun M => by simp only [eX4_who_0, eX4_who_1, eX4_who_4, eX4_who_5, eX4_who_8, eX4_who_11, eX4_who_12, eX4_who_15, eX4_who_16, eX4_who_19, eX4_who_22, eX4_who_23, eX4_who_24, eX4_who_27, eX4_who_28, eX4_who_29, eX4_who_32, eX4_who_33, eX4_who_34, eX4_who_37, eX4_who_38, eX4_who_40, eX4_who_43, eX4_who_44, eX4_who_45, eX4_who_48, eX4_who_49, eX4_who_52, eX4_who_53, eX4_who_54, eX4_who_55, eX4_who_56, eX4_who_59, eX4_who_60, eX4_who_63, eX4_who_64, eX4_who_65, eX4_who_68, eX4_who_71, evb_some, evm_some, evc_some, evc_none, gd, if_true, if_false, eq_self, and_self, and_true, true_and, ne_eq, not_false_eq_true, or_true, true_or, cf0_0, cf0_1, cf0_2, cf0_3, cf0_4, cf0_5, cf0_6, cf23_0, cf23_1, cf23_2, cf23_3, cf48_0, cf48_1, cf50_0, cf50_1, cg0, cg23, cg48, cg50, cg1, cg12, cg24, cg35, Int.reduceEq, Int.reduceLT, Int.reduceLE, ↓reduceIte, n_hasParcelY c1, n_hasPersonY c2, c3, c4, T4_no2 hg]) (fun M => by simp only [eX5_who_0, eX5_who_1, eX5_who_2, eX5_who_5, eX5_who_8, eX5_who_9, eX5_who_10, eX5_who_13, eX5_who_16, eX5_who_17, eX5_who_20, eX5_who_21, eX5_who_22, eX5_who_23, eX5_who_26, eX5_who_29, eX5_who_31, eX5_who_34, eX5_who_35, eX5_who_37, eX5_who_39, eX5_who_42, eX5_who_43, eX5_who_45, eX5_who_48, eX5_who_49, eX5_who_50, eX5_who_53, eX5_who_54, eX5_who_55, eX5_who_58, eX5_who_59, eX5_who_61, eX5_who_62, eX5_who_65, eX5_who_68, eX5_who_69, eX5_who_70, eX5_who_73, eX5_who_74, eX5_who_76, eX5_who_77, eX5_who_80, evb_some, evm_some, evc_some, evc_none, gd, if_true, if_false, eq_self, and_self, and_true, true_and, ne_eq, not_false_eq_true, or_true, true_or, mg, mf0, mf1, mf2, mf3, mf4, mf5, mf6, mf7, mf8, mf9, mf10, mf11, mf12, mf13, mf14, mf15, mf16, mf17, mf18, mf19, mf20, mf21, mf22, mf23, mf24, mf25, mf26, mf27, ma54, ma55, ma56, ma57, ma58, ma59, ma60, ma61, ma62, ma63, ma64, ma65, ma66, ma67, ma68, ma69, ma70, ma71, Int.reduceEq, Int.reduceLT, Int.reduceLE, ↓reduceIte, T5_isParcelY c1, T5_isOneY c2, T5_isIn, show ¬ (0 ≤ w ∧ w ≤ 1) by omega, T5_no2 hm])
  obtain ⟨i, rfl⟩ := n2i c1.1
  obtain ⟨j, rfl⟩ := n2i c2.1
  obtain ⟨N, hN⟩ := n2i h10.1
  have h16 : N ≤ 16 := by omega
  have q : w = 0 ∨ w = 1 := by omega
  rcases q with rfl | rfl
  · refine Bth_y (r := vI (itr (fiF n 1 j i N (g.2 2)) 6 0 0)) h (fun M => ?_) (fun M => ?_)
    · obtain ⟨d', h1, h2⟩ := T3_fitting0 (X := X) (mem := M) (t := t) (la := la) hg hN h16 hW a3 c1.2 c2.2
      exact ⟨d', la, h1, a4, by simp only [eX4_who_0, eX4_who_1, eX4_who_4, eX4_who_5, eX4_who_8, eX4_who_11, eX4_who_12, eX4_who_15, eX4_who_16, eX4_who_19, eX4_who_22, eX4_who_23, eX4_who_24, eX4_who_27, eX4_who_28, eX4_who_29, eX4_who_32, eX4_who_33, eX4_who_34, eX4_who_37, eX4_who_38, eX4_who_40, eX4_who_43, eX4_who_44, eX4_who_45, eX4_who_48, eX4_who_49, eX4_who_52, eX4_who_53, eX4_who_54, eX4_who_55, eX4_who_56, eX4_who_59, eX4_who_60, eX4_who_63, eX4_who_64, eX4_who_65, eX4_who_68, eX4_who_71, evb_some, evm_some, evc_some, evc_none, gd, if_true, if_false, eq_self, and_self, and_true, true_and, ne_eq, not_false_eq_true, or_true, true_or, cf0_0, cf0_1, cf0_2, cf0_3, cf0_4, cf0_5, cf0_6, cf23_0, cf23_1, cf23_2, cf23_3, cf48_0, cf48_1, cf50_0, cf50_1, cg0, cg23, cg48, cg50, cg1, cg12, cg24, cg35, Int.reduceEq, Int.reduceLT, Int.reduceLE, ↓reduceIte, n_hasParcelY c1, n_hasPersonY c2, h2]⟩
    · obtain ⟨g', h1, h2⟩ := T5_bitsFor0 (X := X) (mem := M) hm (h11.trans hN) h16 hW c1.2 c2.2
      rw [h14] at h2
      exact ⟨g', GQ_le h1 (by decide), by simp only [eX5_who_0, eX5_who_1, eX5_who_2, eX5_who_5, eX5_who_8, eX5_who_9, eX5_who_10, eX5_who_13, eX5_who_16, eX5_who_17, eX5_who_20, eX5_who_21, eX5_who_22, eX5_who_23, eX5_who_26, eX5_who_29, eX5_who_31, eX5_who_34, eX5_who_35, eX5_who_37, eX5_who_39, eX5_who_42, eX5_who_43, eX5_who_45, eX5_who_48, eX5_who_49, eX5_who_50, eX5_who_53, eX5_who_54, eX5_who_55, eX5_who_58, eX5_who_59, eX5_who_61, eX5_who_62, eX5_who_65, eX5_who_68, eX5_who_69, eX5_who_70, eX5_who_73, eX5_who_74, eX5_who_76, eX5_who_77, eX5_who_80, evb_some, evm_some, evc_some, evc_none, gd, if_true, if_false, eq_self, and_self, and_true, true_and, ne_eq, not_false_eq_true, or_true, true_or, mg, mf0, mf1, mf2, mf3, mf4, mf5, mf6, mf7, mf8, mf9, mf10, mf11, mf12, mf13, mf14, mf15, mf16, mf17, mf18, mf19, mf20, mf21, mf22, mf23, mf24, mf25, mf26, mf27, ma54, ma55, ma56, ma57, ma58, ma59, ma60, ma61, ma62, ma63, ma64, ma65, ma66, ma67, ma68, ma69, ma70, ma71, Int.reduceEq, Int.reduceLT, Int.reduceLE, ↓reduceIte, T5_isParcelY c1, T5_isOneY c2, T5_isIn, show (0 : Int) ≤ 0 ∧ (0 : Int) ≤ 1 by decide, h2]⟩
  · refine Bth_y (r := vI (itr (fiF n 2 j i N (g.2 2)) 10 0 0)) h (fun M => ?_) (fun M => ?_)
    · obtain ⟨d', h1, h2⟩ := T3_fitting1 (X := X) (mem := M) (t := t) (la := la) hg hN h16 hW a3 c1.2 c2.2
      exact ⟨d', la, h1, a4, by simp only [eX4_who_0, eX4_who_1, eX4_who_4, eX4_who_5, eX4_who_8, eX4_who_11, eX4_who_12, eX4_who_15, eX4_who_16, eX4_who_19, eX4_who_22, eX4_who_23, eX4_who_24, eX4_who_27, eX4_who_28, eX4_who_29, eX4_who_32, eX4_who_33, eX4_who_34, eX4_who_37, eX4_who_38, eX4_who_40, eX4_who_43, eX4_who_44, eX4_who_45, eX4_who_48, eX4_who_49, eX4_who_52, eX4_who_53, eX4_who_54, eX4_who_55, eX4_who_56, eX4_who_59, eX4_who_60, eX4_who_63, eX4_who_64, eX4_who_65, eX4_who_68, eX4_who_71, evb_some, evm_some, evc_some, evc_none, gd, if_true, if_false, eq_self, and_self, and_true, true_and, ne_eq, not_false_eq_true, or_true, true_or, cf0_0, cf0_1, cf0_2, cf0_3, cf0_4, cf0_5, cf0_6, cf23_0, cf23_1, cf23_2, cf23_3, cf48_0, cf48_1, cf50_0, cf50_1, cg0, cg23, cg48, cg50, cg1, cg12, cg24, cg35, Int.reduceEq, Int.reduceLT, Int.reduceLE, ↓reduceIte, n_hasParcelY c1, n_hasPersonY c2, h2]⟩
    · obtain ⟨g', h1, h2⟩ := T5_bitsFor1 (X := X) (mem := M) hm (h11.trans hN) h16 hW c1.2 c2.2
      rw [h14] at h2
      exact ⟨g', GQ_le h1 (by decide), by simp only [eX5_who_0, eX5_who_1, eX5_who_2, eX5_who_5, eX5_who_8, eX5_who_9, eX5_who_10, eX5_who_13, eX5_who_16, eX5_who_17, eX5_who_20, eX5_who_21, eX5_who_22, eX5_who_23, eX5_who_26, eX5_who_29, eX5_who_31, eX5_who_34, eX5_who_35, eX5_who_37, eX5_who_39, eX5_who_42, eX5_who_43, eX5_who_45, eX5_who_48, eX5_who_49, eX5_who_50, eX5_who_53, eX5_who_54, eX5_who_55, eX5_who_58, eX5_who_59, eX5_who_61, eX5_who_62, eX5_who_65, eX5_who_68, eX5_who_69, eX5_who_70, eX5_who_73, eX5_who_74, eX5_who_76, eX5_who_77, eX5_who_80, evb_some, evm_some, evc_some, evc_none, gd, if_true, if_false, eq_self, and_self, and_true, true_and, ne_eq, not_false_eq_true, or_true, true_or, mg, mf0, mf1, mf2, mf3, mf4, mf5, mf6, mf7, mf8, mf9, mf10, mf11, mf12, mf13, mf14, mf15, mf16, mf17, mf18, mf19, mf20, mf21, mf22, mf23, mf24, mf25, mf26, mf27, ma54, ma55, ma56, ma57, ma58, ma59, ma60, ma61, ma62, ma63, ma64, ma65, ma66, ma67, ma68, ma69, ma70, ma71, Int.reduceEq, Int.reduceLT, Int.reduceLE, ↓reduceIte, T5_isParcelY c1, T5_isOneY c2, T5_isIn, show (0 : Int) ≤ 1 ∧ (1 : Int) ≤ 1 by decide, h2]⟩
end WO
