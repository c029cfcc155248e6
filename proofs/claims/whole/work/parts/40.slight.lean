/-! SLIGHT, MAKE UP -/
section SL
variable {X : List Int} {mem : AM} {n t mi la g gm d : ST}
theorem T4_notWaitingN {c : Int} (h : ¬ (0 ≤ c ∧ c < n.1 1)) : ev X m_X4_notWaiting 0 [vR 0, vI c] [] (cpt mem n t mi la g) = some (some (vI (-1)), cpt mem n t mi la g) := by
  simp only [eX4_notWaiting_0, eX4_notWaiting_1, eX4_notWaiting_4, eX4_notWaiting_5, eX4_notWaiting_8, eX4_notWaiting_11, eX4_notWaiting_12, eX4_notWaiting_13, eX4_notWaiting_14, eX4_notWaiting_17, eX4_notWaiting_18, eX4_notWaiting_21, eX4_notWaiting_24, eX4_notWaiting_25, eX4_notWaiting_28, eX4_notWaiting_30, evb_some, evm_some, evc_some, evc_none, gd, if_true, if_false, eq_self, and_self, and_true, true_and, ne_eq, not_false_eq_true, or_true, true_or, cf0_0, cf0_1, cf0_2, cf0_3, cf0_4, cf0_5, cf0_6, cf23_0, cf23_1, cf23_2, cf23_3, cf48_0, cf48_1, cf50_0, cf50_1, cg0, cg23, cg48, cg50, cg1, cg12, cg24, cg35, Int.reduceEq, Int.reduceLT, Int.reduceLE, ↓reduceIte, n_hasParcelN h]
theorem T4_notWaitingS (hW : DW n) {c : Nat} (h : (c : Int) < n.1 1) (hs : ¬ (n.2 8).getD c 0 = 0) : ev X m_X4_notWaiting 0 [vR 0, vI (c : Int)] [] (cpt mem n t mi la g) = some (some (vI (-3)), cpt mem n t mi la g) := by
  simp only [eX4_notWaiting_0, eX4_notWaiting_1, eX4_notWaiting_4, eX4_notWaiting_5, eX4_notWaiting_8, eX4_notWaiting_11, eX4_notWaiting_12, eX4_notWaiting_13, eX4_notWaiting_14, eX4_notWaiting_17, eX4_notWaiting_18, eX4_notWaiting_21, eX4_notWaiting_24, eX4_notWaiting_25, eX4_notWaiting_28, eX4_notWaiting_30, evb_some, evm_some, evc_some, evc_none, gd, if_true, if_false, eq_self, and_self, and_true, true_and, ne_eq, not_false_eq_true, or_true, true_or, cf0_0, cf0_1, cf0_2, cf0_3, cf0_4, cf0_5, cf0_6, cf23_0, cf23_1, cf23_2, cf23_3, cf48_0, cf48_1, cf50_0, cf50_1, cg0, cg23, cg48, cg50, cg1, cg12, cg24, cg35, Int.reduceEq, Int.reduceLT, Int.reduceLE, ↓reduceIte, n_hasParcelY (show 0 ≤ (c : Int) ∧ (c : Int) < n.1 1 by omega), n_stateOf hW.1 h hW.2.2.1.2, hs]
theorem T4_notWaitingY (hW : DW n) {c : Nat} (h : (c : Int) < n.1 1) (hs : (n.2 8).getD c 0 = 0) : ev X m_X4_notWaiting 0 [vR 0, vI (c : Int)] [] (cpt mem n t mi la g) = some (some (vI 0), cpt mem n t mi la g) := by
  simp only [eX4_notWaiting_0, eX4_notWaiting_1, eX4_notWaiting_4, eX4_notWaiting_5, eX4_notWaiting_8, eX4_notWaiting_11, eX4_notWaiting_12, eX4_notWaiting_13, eX4_notWaiting_14, eX4_notWaiting_17, eX4_notWaiting_18, eX4_notWaiting_21, eX4_notWaiting_24, eX4_notWaiting_25, eX4_notWaiting_28, eX4_notWaiting_30, evb_some, evm_some, evc_some, evc_none, gd, if_true, if_false, eq_self, and_self, and_true, true_and, ne_eq, not_false_eq_true, or_true, true_or, cf0_0, cf0_1, cf0_2, cf0_3, cf0_4, cf0_5, cf0_6, cf23_0, cf23_1, cf23_2, cf23_3, cf48_0, cf48_1, cf50_0, cf50_1, cg0, cg23, cg48, cg50, cg1, cg12, cg24, cg35, Int.reduceEq, Int.reduceLT, Int.reduceLE, ↓reduceIte, n_hasParcelY (show 0 ≤ (c : Int) ∧ (c : Int) < n.1 1 by omega), n_stateOf hW.1 h hW.2.2.1.2, hs]
/-- whom a PARCEL is TO, as a place -/
theorem to_n (hW : DW d) {c : Nat} (h : (c : Int) < d.1 1) : ∃ q : Nat, (d.2 6).getD c 0 = (q : Int) ∧ (q : Int) < d.1 0 ∧ q < 6 := by
  have h1 := (hW.2.2.2.2.2.2.2 c h).1
  have h2 := hW.2.1.2
  exact ⟨((d.2 6).getD c 0).toNat, by omega, by omega, by omega⟩
/-- SLIGHT, as the class seeks -/
def slF (d : ST) (c q k : Nat) (s : Nat × Int) : Nat × Int := if k = q then s else if whS (addH d k q 10) c < s.1 then (whS (addH d k q 10) c, (k : Int)) else s
def slV (d : ST) (c q : Nat) : Int := (itr (slF d c q) (d.1 0).toNat 0 (whS d c, -9)).2
theorem T3_bestSlight (h : DW n) (hmi : DL mi) {c q : Nat} (hc : (c : Int) < n.1 1) (hq : (n.2 6).getD c 0 = (q : Int)) (hq2 : (q : Int) < n.1 0) : ∃ d', DW d' ∧ ev X m_X3_bestSlight 0 [vR 23, vR 1, vI (c : Int), vS, vS, vS, vS, vS] [] (cpt mem n t mi la g) = some (some (vI (slV n c q)), cpt mem n t d' la g) := by
  have h0 := h.2.1.1
  have h6 := h.2.1.2
  have h8 := h.2.2.1.2
  have key : ∀ (m k : Nat) (s : Nat × Int) (e : ST) (z : AV), DW e → k + m = (n.1 0).toNat → ∃ d', DW d' ∧ ev X m_X3_bestSlight 33 [vR 23, vR 1, vI (c : Int), vI (q : Int), vI ((s.1 : Nat) : Int), vI s.2, vI (k : Int), z] [] (cpt mem n t e la g) = some (some (vI (itr (slF n c q) m k s).2), cpt mem n t d' la g) := by
    intro m
    induction m with
    | zero =>
      intro k s e z he hk
      have c1 : ¬ (k : Int) < n.1 0 := by omega
      refine ⟨e, he, ?_⟩
      rw [eX3_bestSlight_33]
      simp only [eX3_bestSlight_0, eX3_bestSlight_1, eX3_bestSlight_2, eX3_bestSlight_5, eX3_bestSlight_6, eX3_bestSlight_7, eX3_bestSlight_10, eX3_bestSlight_11, eX3_bestSlight_14, eX3_bestSlight_15, eX3_bestSlight_18, eX3_bestSlight_19, eX3_bestSlight_21, eX3_bestSlight_24, eX3_bestSlight_26, eX3_bestSlight_28, eX3_bestSlight_30, eX3_bestSlight_31, eX3_bestSlight_35, eX3_bestSlight_36, eX3_bestSlight_39, eX3_bestSlight_42, eX3_bestSlight_44, eX3_bestSlight_45, eX3_bestSlight_48, eX3_bestSlight_51, eX3_bestSlight_52, eX3_bestSlight_55, eX3_bestSlight_56, eX3_bestSlight_59, eX3_bestSlight_60, eX3_bestSlight_63, eX3_bestSlight_65, eX3_bestSlight_66, eX3_bestSlight_68, eX3_bestSlight_71, eX3_bestSlight_71r, eX3_bestSlight_72, eX3_bestSlight_73, eX3_bestSlight_76, eX3_bestSlight_77, eX3_bestSlight_79, eX3_bestSlight_82, eX3_bestSlight_84, eX3_bestSlight_86, eX3_bestSlight_88, eX3_bestSlight_91, eX3_bestSlight_93, eX3_bestSlight_95, eX3_bestSlight_97, eX3_bestSlight_99, eX3_bestSlight_102, eX3_bestSlight_105, eX3_bestSlight_107, evb_some, evm_some, evc_some, evc_none, gd, if_true, if_false, eq_self, and_self, and_true, true_and, ne_eq, not_false_eq_true, or_true, true_or, cf0_0, cf0_1, cf0_2, cf0_3, cf0_4, cf0_5, cf0_6, cf23_0, cf23_1, cf23_2, cf23_3, cf48_0, cf48_1, cf50_0, cf50_1, cg0, cg23, cg48, cg50, cg1, cg12, cg24, cg35, Int.reduceEq, Int.reduceLT, Int.reduceLE, ↓reduceIte, q1_0, q1_1, q1_2, q1_3, q1_4, q1_5, q1_6, q1_7, q1_8, q1_9, q1_10, q1_11, q1_12, q12_0, q12_1, q12_2, q12_3, q12_4, q12_5, q12_6, q12_7, q12_8, q12_9, q12_10, q12_11, q12_12, q24_0, q24_1, q24_2, q24_3, q24_4, q24_5, q24_6, q24_7, q24_8, q24_9, q24_10, q24_11, q24_12, q35_0, q35_1, q35_2, q35_3, q35_4, q35_5, q35_6, q35_7, q35_8, q35_9, q35_10, q35_11, q35_12, c1, itr]
    | succ m ih =>
      intro k s e z he hk
      have c1 : (k : Int) < n.1 0 := by omega
      by_cases q1 : k = q
      · subst q1
        obtain ⟨d', h1, h2⟩ := ih (k + 1) s e z he (by omega)
        refine ⟨d', h1, ?_⟩
        rw [eX3_bestSlight_33]
        simp only [eX3_bestSlight_0, eX3_bestSlight_1, eX3_bestSlight_2, eX3_bestSlight_5, eX3_bestSlight_6, eX3_bestSlight_7, eX3_bestSlight_10, eX3_bestSlight_11, eX3_bestSlight_14, eX3_bestSlight_15, eX3_bestSlight_18, eX3_bestSlight_19, eX3_bestSlight_21, eX3_bestSlight_24, eX3_bestSlight_26, eX3_bestSlight_28, eX3_bestSlight_30, eX3_bestSlight_31, eX3_bestSlight_35, eX3_bestSlight_36, eX3_bestSlight_39, eX3_bestSlight_42, eX3_bestSlight_44, eX3_bestSlight_45, eX3_bestSlight_48, eX3_bestSlight_51, eX3_bestSlight_52, eX3_bestSlight_55, eX3_bestSlight_56, eX3_bestSlight_59, eX3_bestSlight_60, eX3_bestSlight_63, eX3_bestSlight_65, eX3_bestSlight_66, eX3_bestSlight_68, eX3_bestSlight_71, eX3_bestSlight_71r, eX3_bestSlight_72, eX3_bestSlight_73, eX3_bestSlight_76, eX3_bestSlight_77, eX3_bestSlight_79, eX3_bestSlight_82, eX3_bestSlight_84, eX3_bestSlight_86, eX3_bestSlight_88, eX3_bestSlight_91, eX3_bestSlight_93, eX3_bestSlight_95, eX3_bestSlight_97, eX3_bestSlight_99, eX3_bestSlight_102, eX3_bestSlight_105, eX3_bestSlight_107, evb_some, evm_some, evc_some, evc_none, gd, if_true, if_false, eq_self, and_self, and_true, true_and, ne_eq, not_false_eq_true, or_true, true_or, cf0_0, cf0_1, cf0_2, cf0_3, cf0_4, cf0_5, cf0_6, cf23_0, cf23_1, cf23_2, cf23_3, cf48_0, cf48_1, cf50_0, cf50_1, cg0, cg23, cg48, cg50, cg1, cg12, cg24, cg35, Int.reduceEq, Int.reduceLT, Int.reduceLE, ↓reduceIte, q1_0, q1_1, q1_2, q1_3, q1_4, q1_5, q1_6, q1_7, q1_8, q1_9, q1_10, q1_11, q1_12, q12_0, q12_1, q12_2, q12_3, q12_4, q12_5, q12_6, q12_7, q12_8, q12_9, q12_10, q12_11, q12_12, q24_0, q24_1, q24_2, q24_3, q24_4, q24_5, q24_6, q24_7, q24_8, q24_9, q24_10, q24_11, q24_12, q35_0, q35_1, q35_2, q35_3, q35_4, q35_5, q35_6, q35_7, q35_8, q35_9, q35_10, q35_11, q35_12, c1, itr, slF, w32_k1 (show k < 2147483647 by omega)]
        exact h2
      · have hA := DW_addH (x := 10) h c1 hq2 q1
        have ha := m_addHate (X := X) (mem := mem) (n := n) (t := t) (la := la) (g := g) (x := 10) (z := vS) h.1 h6 c1 hq2 q1
        obtain ⟨e', h3, h4⟩ := m_dtb99 (X := X) (mem := mem) (n := n) (t := t) (la := la) (g := g) (z := vS) hA (show (c : Int) < (addH n k q 10).1 1 from hc)
        have q2 : ¬ (k : Int) = (q : Int) := by omega
        by_cases q3 : whS (addH n k q 10) c < s.1
        · obtain ⟨d', h1, h2⟩ := ih (k + 1) (whS (addH n k q 10) c, (k : Int)) e' (vI ((whS (addH n k q 10) c : Nat) : Int)) h3 (by omega)
          refine ⟨d', h1, ?_⟩
          rw [eX3_bestSlight_33]
          simp only [eX3_bestSlight_0, eX3_bestSlight_1, eX3_bestSlight_2, eX3_bestSlight_5, eX3_bestSlight_6, eX3_bestSlight_7, eX3_bestSlight_10, eX3_bestSlight_11, eX3_bestSlight_14, eX3_bestSlight_15, eX3_bestSlight_18, eX3_bestSlight_19, eX3_bestSlight_21, eX3_bestSlight_24, eX3_bestSlight_26, eX3_bestSlight_28, eX3_bestSlight_30, eX3_bestSlight_31, eX3_bestSlight_35, eX3_bestSlight_36, eX3_bestSlight_39, eX3_bestSlight_42, eX3_bestSlight_44, eX3_bestSlight_45, eX3_bestSlight_48, eX3_bestSlight_51, eX3_bestSlight_52, eX3_bestSlight_55, eX3_bestSlight_56, eX3_bestSlight_59, eX3_bestSlight_60, eX3_bestSlight_63, eX3_bestSlight_65, eX3_bestSlight_66, eX3_bestSlight_68, eX3_bestSlight_71, eX3_bestSlight_71r, eX3_bestSlight_72, eX3_bestSlight_73, eX3_bestSlight_76, eX3_bestSlight_77, eX3_bestSlight_79, eX3_bestSlight_82, eX3_bestSlight_84, eX3_bestSlight_86, eX3_bestSlight_88, eX3_bestSlight_91, eX3_bestSlight_93, eX3_bestSlight_95, eX3_bestSlight_97, eX3_bestSlight_99, eX3_bestSlight_102, eX3_bestSlight_105, eX3_bestSlight_107, evb_some, evm_some, evc_some, evc_none, gd, if_true, if_false, eq_self, and_self, and_true, true_and, ne_eq, not_false_eq_true, or_true, true_or, cf0_0, cf0_1, cf0_2, cf0_3, cf0_4, cf0_5, cf0_6, cf23_0, cf23_1, cf23_2, cf23_3, cf48_0, cf48_1, cf50_0, cf50_1, cg0, cg23, cg48, cg50, cg1, cg12, cg24, cg35, Int.reduceEq, Int.reduceLT, Int.reduceLE, ↓reduceIte, q1_0, q1_1, q1_2, q1_3, q1_4, q1_5, q1_6, q1_7, q1_8, q1_9, q1_10, q1_11, q1_12, q12_0, q12_1, q12_2, q12_3, q12_4, q12_5, q12_6, q12_7, q12_8, q12_9, q12_10, q12_11, q12_12, q24_0, q24_1, q24_2, q24_3, q24_4, q24_5, q24_6, q24_7, q24_8, q24_9, q24_10, q24_11, q24_12, q35_0, q35_1, q35_2, q35_3, q35_4, q35_5, q35_6, q35_7, q35_8, q35_9, q35_10, q35_11, q35_12, c1, itr, slF, q1, q2, b24_1 he.1 h.1, ha, h4, Int.ofNat_lt, q3, w32_k1 (show k < 2147483647 by omega)]
          exact h2
        · obtain ⟨d', h1, h2⟩ := ih (k + 1) s e' (vI ((whS (addH n k q 10) c : Nat) : Int)) h3 (by omega)
          refine ⟨d', h1, ?_⟩
          rw [eX3_bestSlight_33]
          simp only [eX3_bestSlight_0, eX3_bestSlight_1, eX3_bestSlight_2, eX3_bestSlight_5, eX3_bestSlight_6, eX3_bestSlight_7, eX3_bestSlight_10, eX3_bestSlight_11, eX3_bestSlight_14, eX3_bestSlight_15, eX3_bestSlight_18, eX3_bestSlight_19, eX3_bestSlight_21, eX3_bestSlight_24, eX3_bestSlight_26, eX3_bestSlight_28, eX3_bestSlight_30, eX3_bestSlight_31, eX3_bestSlight_35, eX3_bestSlight_36, eX3_bestSlight_39, eX3_bestSlight_42, eX3_bestSlight_44, eX3_bestSlight_45, eX3_bestSlight_48, eX3_bestSlight_51, eX3_bestSlight_52, eX3_bestSlight_55, eX3_bestSlight_56, eX3_bestSlight_59, eX3_bestSlight_60, eX3_bestSlight_63, eX3_bestSlight_65, eX3_bestSlight_66, eX3_bestSlight_68, eX3_bestSlight_71, eX3_bestSlight_71r, eX3_bestSlight_72, eX3_bestSlight_73, eX3_bestSlight_76, eX3_bestSlight_77, eX3_bestSlight_79, eX3_bestSlight_82, eX3_bestSlight_84, eX3_bestSlight_86, eX3_bestSlight_88, eX3_bestSlight_91, eX3_bestSlight_93, eX3_bestSlight_95, eX3_bestSlight_97, eX3_bestSlight_99, eX3_bestSlight_102, eX3_bestSlight_105, eX3_bestSlight_107, evb_some, evm_some, evc_some, evc_none, gd, if_true, if_false, eq_self, and_self, and_true, true_and, ne_eq, not_false_eq_true, or_true, true_or, cf0_0, cf0_1, cf0_2, cf0_3, cf0_4, cf0_5, cf0_6, cf23_0, cf23_1, cf23_2, cf23_3, cf48_0, cf48_1, cf50_0, cf50_1, cg0, cg23, cg48, cg50, cg1, cg12, cg24, cg35, Int.reduceEq, Int.reduceLT, Int.reduceLE, ↓reduceIte, q1_0, q1_1, q1_2, q1_3, q1_4, q1_5, q1_6, q1_7, q1_8, q1_9, q1_10, q1_11, q1_12, q12_0, q12_1, q12_2, q12_3, q12_4, q12_5, q12_6, q12_7, q12_8, q12_9, q12_10, q12_11, q12_12, q24_0, q24_1, q24_2, q24_3, q24_4, q24_5, q24_6, q24_7, q24_8, q24_9, q24_10, q24_11, q24_12, q35_0, q35_1, q35_2, q35_3, q35_4, q35_5, q35_6, q35_7, q35_8, q35_9, q35_10, q35_11, q35_12, c1, itr, slF, q1, q2, b24_1 he.1 h.1, ha, h4, Int.ofNat_lt, q3, w32_k1 (show k < 2147483647 by omega)]
          exact h2
  obtain ⟨e, h3, h4⟩ := m_dtb99 (X := X) (mem := mem) (n := n) (t := t) (la := la) (g := g) (z := vS) h hc
  obtain ⟨d', h1, h2⟩ := key (n.1 0).toNat 0 (whS n c, -9) e vS h3 (by omega)
  refine ⟨d', h1, Eq.trans ?_ h2⟩
  simp only [eX3_bestSlight_0, eX3_bestSlight_1, eX3_bestSlight_2, eX3_bestSlight_5, eX3_bestSlight_6, eX3_bestSlight_7, eX3_bestSlight_10, eX3_bestSlight_11, eX3_bestSlight_14, eX3_bestSlight_15, eX3_bestSlight_18, eX3_bestSlight_19, eX3_bestSlight_21, eX3_bestSlight_24, eX3_bestSlight_26, eX3_bestSlight_28, eX3_bestSlight_30, eX3_bestSlight_31, evb_some, evm_some, evc_some, evc_none, gd, if_true, if_false, eq_self, and_self, and_true, true_and, ne_eq, not_false_eq_true, or_true, true_or, cf0_0, cf0_1, cf0_2, cf0_3, cf0_4, cf0_5, cf0_6, cf23_0, cf23_1, cf23_2, cf23_3, cf48_0, cf48_1, cf50_0, cf50_1, cg0, cg23, cg48, cg50, cg1, cg12, cg24, cg35, Int.reduceEq, Int.reduceLT, Int.reduceLE, ↓reduceIte, n_receiverOf h.1 hc h8, hq, b24_1 hmi h.1, h4]
  rfl
/-- SLIGHT, as the reference seeks -/
def srF (d : ST) (c q k : Nat) (s : Int × Int) : Int × Int := if k = q then (if 1000 < s.1 then (1000, (k : Int)) else s) else if lat (addH d k q 10) c < s.1 then (lat (addH d k q 10) c, (k : Int)) else s
theorem setH_back (d : ST) (i j : Nat) (v : Int) : setH (setH d i j v) i j (hat d i j) = d := by
  refine ST_ext (fun _ => rfl) (fun k => ?_)
  unfold setH hat
  simp only [setL_2, if_true]
  by_cases q : k = 5
  · rw [if_pos q, List.set_set, set_self, q]
  · rw [if_neg q, if_neg q]
theorem T5_lateSlighting (h : DW d) (hl : (g.2 5).length = 309) {c q p : Nat} (hc : (c : Int) < d.1 1) (hq : (d.2 6).getD c 0 = (q : Int)) (hq2 : (q : Int) < d.1 0) (hp : (p : Int) < d.1 0) (hpq : p ≠ q) : ∃ g', GQ g g' 206 ∧ ev X m_X5_lateSlighting 0 [vR 53, vI (c : Int), vI (p : Int), vS, vS] [] (mpt mem g d) = some (some (vI (lat (addH d p q 10) c)), mpt mem g' d) := by
  have h6 := h.2.1.2
  have h8 := h.2.2.1.2
  have hL := h.1
  have p6 : p < 6 := by omega
  have q6 : q < 6 := by omega
  have c8 : c < 8 := by omega
  have pq : 6 * p + q < 36 := by omega
  obtain ⟨l1, l2, l3, l4, l5, l6, l7, l8, l9, l10⟩ := id hL
  have hA := DW_addH (x := 10) h hp hq2 hpq
  have a5 : ((addH d p q 10).2 5).length = 36 := hA.1.2.2.2.2.1
  have a6 : (addH d p q 10).2 6 = d.2 6 := rfl
  have hla := T5_lateOf (X := X) (mem := mem) (g := g) (y1 := vS) hA hl (show (c : Int) < (addH d p q 10).1 1 from hc)
  have hb : setL (addH d p q 10) 5 (((addH d p q 10).2 5).set (6 * p + q) ((d.2 5).getD (6 * p + q) 0)) = d := setH_back d p q _
  refine ⟨gTh g (addH d p q 10), GQ_gTh hl, ?_⟩
  simp only [eX5_lateSlighting_0, eX5_lateSlighting_1, eX5_lateSlighting_4, eX5_lateSlighting_5, eX5_lateSlighting_6, eX5_lateSlighting_9, eX5_lateSlighting_10, eX5_lateSlighting_11, eX5_lateSlighting_14, eX5_lateSlighting_15, eX5_lateSlighting_16, eX5_lateSlighting_17, eX5_lateSlighting_18, eX5_lateSlighting_19, eX5_lateSlighting_22, eX5_lateSlighting_23, eX5_lateSlighting_24, eX5_lateSlighting_25, eX5_lateSlighting_28, eX5_lateSlighting_29, eX5_lateSlighting_30, eX5_lateSlighting_33, eX5_lateSlighting_35, eX5_lateSlighting_36, eX5_lateSlighting_39, eX5_lateSlighting_40, eX5_lateSlighting_41, eX5_lateSlighting_44, eX5_lateSlighting_45, eX5_lateSlighting_46, eX5_lateSlighting_49, eX5_lateSlighting_50, eX5_lateSlighting_51, eX5_lateSlighting_53, evb_some, evm_some, evc_some, evc_none, gd, if_true, if_false, eq_self, and_self, and_true, true_and, ne_eq, not_false_eq_true, or_true, true_or, mg, mf0, mf1, mf2, mf3, mf4, mf5, mf6, mf7, mf8, mf9, mf10, mf11, mf12, mf13, mf14, mf15, mf16, mf17, mf18, mf19, mf20, mf21, mf22, mf23, mf24, mf25, mf26, mf27, ma54, ma55, ma56, ma57, ma58, ma59, ma60, ma61, ma62, ma63, ma64, ma65, ma66, ma67, ma68, ma69, ma70, ma71, mw11, mw12, mw13, mw18, mw19, mw20, mw22, mw23, mw24, mw27, mx54, mx55, mx56, mx57, mx58, mx59, mx60, mx61, mx62, mx63, mx64, mx65, mx66, mx67, mx68, mx69, mx70, mx71, l5, l6, c8, pq, hq, T5_spot p6 q6, T5_slighted hL p6 q6, show w32 (10 * 1) = 10 by decide, hla, a5, a6, hb]
theorem T5_slightLoop (h : DW d) (hl : (g.2 5).length = 309) {c q : Nat} (hc : (c : Int) < d.1 1) (hs : (d.2 8).getD c 0 = 0) (hq : (d.2 6).getD c 0 = (q : Int)) (hq2 : (q : Int) < d.1 0) : ∃ g', GQ g g' 206 ∧ ev X m_X5_slight 0 [vR 53, vI (c : Int), vS, vS, vS, vS, vS] [] (mpt mem g d) = some (some (vI (itr (srF d c q) (d.1 0).toNat 0 (lat d c, -9)).2), mpt mem g' d) := by
  have h0 := h.2.1.1
  have h6 := h.2.1.2
  have h8 := h.2.2.1.2
  have c8 : c < 8 := by omega
  obtain ⟨l1, l2, l3, l4, l5, l6, l7, l8, l9, l10⟩ := id h.1
  have key : ∀ (m k : Nat) (s : Int × Int) (g : ST) (z : AV), (g.2 5).length = 309 → k + m = (d.1 0).toNat → ∃ g', GQ g g' 206 ∧ ev X m_X5_slight 51 [vR 53, vI (c : Int), vI 0, vI s.2, vI s.1, vI (k : Int), z] [] (mpt mem g d) = some (some (vI (itr (srF d c q) m k s).2), mpt mem g' d) := by
    intro m
    induction m with
    | zero =>
      intro k s g z hl hk
      have c1 : ¬ (k : Int) < d.1 0 := by omega
      refine ⟨g, GQ_rfl hl, ?_⟩
      rw [eX5_slight_51]
      simp only [eX5_slight_0, eX5_slight_1, eX5_slight_2, eX5_slight_5, eX5_slight_8, eX5_slight_9, eX5_slight_12, eX5_slight_13, eX5_slight_16, eX5_slight_17, eX5_slight_18, eX5_slight_21, eX5_slight_23, eX5_slight_26, eX5_slight_27, eX5_slight_28, eX5_slight_29, eX5_slight_32, eX5_slight_33, eX5_slight_34, eX5_slight_37, eX5_slight_38, eX5_slight_40, eX5_slight_41, eX5_slight_42, eX5_slight_43, eX5_slight_46, eX5_slight_48, eX5_slight_49, eX5_slight_53, eX5_slight_54, eX5_slight_57, eX5_slight_60, eX5_slight_62, eX5_slight_63, eX5_slight_66, eX5_slight_67, eX5_slight_68, eX5_slight_71, eX5_slight_74, eX5_slight_77, eX5_slight_78, eX5_slight_79, eX5_slight_81, eX5_slight_84, eX5_slight_86, eX5_slight_88, eX5_slight_90, eX5_slight_93, eX5_slight_96, eX5_slight_98, eX5_slight_99, eX5_slight_101, eX5_slight_103, eX5_slight_106, eX5_slight_109, eX5_slight_110, evb_some, evm_some, evc_some, evc_none, gd, if_true, if_false, eq_self, and_self, and_true, true_and, ne_eq, not_false_eq_true, or_true, true_or, mg, mf0, mf1, mf2, mf3, mf4, mf5, mf6, mf7, mf8, mf9, mf10, mf11, mf12, mf13, mf14, mf15, mf16, mf17, mf18, mf19, mf20, mf21, mf22, mf23, mf24, mf25, mf26, mf27, ma54, ma55, ma56, ma57, ma58, ma59, ma60, ma61, ma62, ma63, ma64, ma65, ma66, ma67, ma68, ma69, ma70, ma71, Int.reduceEq, Int.reduceLT, Int.reduceLE, ↓reduceIte, c1, itr]
    | succ m ih =>
      intro k s g z hl hk
      have c1 : (k : Int) < d.1 0 := by omega
      by_cases q1 : k = q
      · have q2 : (k : Int) = (q : Int) := by omega
        by_cases q3 : 1000 < s.1
        · obtain ⟨g', h1, h2⟩ := ih (k + 1) (1000, (k : Int)) g (vI 1000) hl (by omega)
          refine ⟨g', h1, ?_⟩
          rw [eX5_slight_51]
          simp only [eX5_slight_0, eX5_slight_1, eX5_slight_2, eX5_slight_5, eX5_slight_8, eX5_slight_9, eX5_slight_12, eX5_slight_13, eX5_slight_16, eX5_slight_17, eX5_slight_18, eX5_slight_21, eX5_slight_23, eX5_slight_26, eX5_slight_27, eX5_slight_28, eX5_slight_29, eX5_slight_32, eX5_slight_33, eX5_slight_34, eX5_slight_37, eX5_slight_38, eX5_slight_40, eX5_slight_41, eX5_slight_42, eX5_slight_43, eX5_slight_46, eX5_slight_48, eX5_slight_49, eX5_slight_53, eX5_slight_54, eX5_slight_57, eX5_slight_60, eX5_slight_62, eX5_slight_63, eX5_slight_66, eX5_slight_67, eX5_slight_68, eX5_slight_71, eX5_slight_74, eX5_slight_77, eX5_slight_78, eX5_slight_79, eX5_slight_81, eX5_slight_84, eX5_slight_86, eX5_slight_88, eX5_slight_90, eX5_slight_93, eX5_slight_96, eX5_slight_98, eX5_slight_99, eX5_slight_101, eX5_slight_103, eX5_slight_106, eX5_slight_109, eX5_slight_110, evb_some, evm_some, evc_some, evc_none, gd, if_true, if_false, eq_self, and_self, and_true, true_and, ne_eq, not_false_eq_true, or_true, true_or, mg, mf0, mf1, mf2, mf3, mf4, mf5, mf6, mf7, mf8, mf9, mf10, mf11, mf12, mf13, mf14, mf15, mf16, mf17, mf18, mf19, mf20, mf21, mf22, mf23, mf24, mf25, mf26, mf27, ma54, ma55, ma56, ma57, ma58, ma59, ma60, ma61, ma62, ma63, ma64, ma65, ma66, ma67, ma68, ma69, ma70, ma71, Int.reduceEq, Int.reduceLT, Int.reduceLE, ↓reduceIte, c1, itr, srF, l6, c8, hq, if_pos q2, if_pos q1, if_pos q3, w32_k1 (show k < 2147483647 by omega)]
          exact h2
        · obtain ⟨g', h1, h2⟩ := ih (k + 1) s g (vI 1000) hl (by omega)
          refine ⟨g', h1, ?_⟩
          rw [eX5_slight_51]
          simp only [eX5_slight_0, eX5_slight_1, eX5_slight_2, eX5_slight_5, eX5_slight_8, eX5_slight_9, eX5_slight_12, eX5_slight_13, eX5_slight_16, eX5_slight_17, eX5_slight_18, eX5_slight_21, eX5_slight_23, eX5_slight_26, eX5_slight_27, eX5_slight_28, eX5_slight_29, eX5_slight_32, eX5_slight_33, eX5_slight_34, eX5_slight_37, eX5_slight_38, eX5_slight_40, eX5_slight_41, eX5_slight_42, eX5_slight_43, eX5_slight_46, eX5_slight_48, eX5_slight_49, eX5_slight_53, eX5_slight_54, eX5_slight_57, eX5_slight_60, eX5_slight_62, eX5_slight_63, eX5_slight_66, eX5_slight_67, eX5_slight_68, eX5_slight_71, eX5_slight_74, eX5_slight_77, eX5_slight_78, eX5_slight_79, eX5_slight_81, eX5_slight_84, eX5_slight_86, eX5_slight_88, eX5_slight_90, eX5_slight_93, eX5_slight_96, eX5_slight_98, eX5_slight_99, eX5_slight_101, eX5_slight_103, eX5_slight_106, eX5_slight_109, eX5_slight_110, evb_some, evm_some, evc_some, evc_none, gd, if_true, if_false, eq_self, and_self, and_true, true_and, ne_eq, not_false_eq_true, or_true, true_or, mg, mf0, mf1, mf2, mf3, mf4, mf5, mf6, mf7, mf8, mf9, mf10, mf11, mf12, mf13, mf14, mf15, mf16, mf17, mf18, mf19, mf20, mf21, mf22, mf23, mf24, mf25, mf26, mf27, ma54, ma55, ma56, ma57, ma58, ma59, ma60, ma61, ma62, ma63, ma64, ma65, ma66, ma67, ma68, ma69, ma70, ma71, Int.reduceEq, Int.reduceLT, Int.reduceLE, ↓reduceIte, c1, itr, srF, l6, c8, hq, if_pos q2, if_pos q1, if_neg q3, w32_k1 (show k < 2147483647 by omega)]
          exact h2
      · have q2 : ¬ (k : Int) = (q : Int) := by omega
        obtain ⟨g1, h3, h4⟩ := T5_lateSlighting (X := X) (mem := mem) h hl hc hq hq2 c1 q1
        by_cases q3 : lat (addH d k q 10) c < s.1
        · obtain ⟨g', h1, h2⟩ := ih (k + 1) (lat (addH d k q 10) c, (k : Int)) g1 (vI (lat (addH d k q 10) c)) h3.2.2.1 (by omega)
          refine ⟨g', GQ_trans h3 h1, ?_⟩
          rw [eX5_slight_51]
          simp only [eX5_slight_0, eX5_slight_1, eX5_slight_2, eX5_slight_5, eX5_slight_8, eX5_slight_9, eX5_slight_12, eX5_slight_13, eX5_slight_16, eX5_slight_17, eX5_slight_18, eX5_slight_21, eX5_slight_23, eX5_slight_26, eX5_slight_27, eX5_slight_28, eX5_slight_29, eX5_slight_32, eX5_slight_33, eX5_slight_34, eX5_slight_37, eX5_slight_38, eX5_slight_40, eX5_slight_41, eX5_slight_42, eX5_slight_43, eX5_slight_46, eX5_slight_48, eX5_slight_49, eX5_slight_53, eX5_slight_54, eX5_slight_57, eX5_slight_60, eX5_slight_62, eX5_slight_63, eX5_slight_66, eX5_slight_67, eX5_slight_68, eX5_slight_71, eX5_slight_74, eX5_slight_77, eX5_slight_78, eX5_slight_79, eX5_slight_81, eX5_slight_84, eX5_slight_86, eX5_slight_88, eX5_slight_90, eX5_slight_93, eX5_slight_96, eX5_slight_98, eX5_slight_99, eX5_slight_101, eX5_slight_103, eX5_slight_106, eX5_slight_109, eX5_slight_110, evb_some, evm_some, evc_some, evc_none, gd, if_true, if_false, eq_self, and_self, and_true, true_and, ne_eq, not_false_eq_true, or_true, true_or, mg, mf0, mf1, mf2, mf3, mf4, mf5, mf6, mf7, mf8, mf9, mf10, mf11, mf12, mf13, mf14, mf15, mf16, mf17, mf18, mf19, mf20, mf21, mf22, mf23, mf24, mf25, mf26, mf27, ma54, ma55, ma56, ma57, ma58, ma59, ma60, ma61, ma62, ma63, ma64, ma65, ma66, ma67, ma68, ma69, ma70, ma71, Int.reduceEq, Int.reduceLT, Int.reduceLE, ↓reduceIte, c1, itr, srF, l6, c8, hq, if_neg q2, if_neg q1, h4, if_pos q3, w32_k1 (show k < 2147483647 by omega)]
          exact h2
        · obtain ⟨g', h1, h2⟩ := ih (k + 1) s g1 (vI (lat (addH d k q 10) c)) h3.2.2.1 (by omega)
          refine ⟨g', GQ_trans h3 h1, ?_⟩
          rw [eX5_slight_51]
          simp only [eX5_slight_0, eX5_slight_1, eX5_slight_2, eX5_slight_5, eX5_slight_8, eX5_slight_9, eX5_slight_12, eX5_slight_13, eX5_slight_16, eX5_slight_17, eX5_slight_18, eX5_slight_21, eX5_slight_23, eX5_slight_26, eX5_slight_27, eX5_slight_28, eX5_slight_29, eX5_slight_32, eX5_slight_33, eX5_slight_34, eX5_slight_37, eX5_slight_38, eX5_slight_40, eX5_slight_41, eX5_slight_42, eX5_slight_43, eX5_slight_46, eX5_slight_48, eX5_slight_49, eX5_slight_53, eX5_slight_54, eX5_slight_57, eX5_slight_60, eX5_slight_62, eX5_slight_63, eX5_slight_66, eX5_slight_67, eX5_slight_68, eX5_slight_71, eX5_slight_74, eX5_slight_77, eX5_slight_78, eX5_slight_79, eX5_slight_81, eX5_slight_84, eX5_slight_86, eX5_slight_88, eX5_slight_90, eX5_slight_93, eX5_slight_96, eX5_slight_98, eX5_slight_99, eX5_slight_101, eX5_slight_103, eX5_slight_106, eX5_slight_109, eX5_slight_110, evb_some, evm_some, evc_some, evc_none, gd, if_true, if_false, eq_self, and_self, and_true, true_and, ne_eq, not_false_eq_true, or_true, true_or, mg, mf0, mf1, mf2, mf3, mf4, mf5, mf6, mf7, mf8, mf9, mf10, mf11, mf12, mf13, mf14, mf15, mf16, mf17, mf18, mf19, mf20, mf21, mf22, mf23, mf24, mf25, mf26, mf27, ma54, ma55, ma56, ma57, ma58, ma59, ma60, ma61, ma62, ma63, ma64, ma65, ma66, ma67, ma68, ma69, ma70, ma71, Int.reduceEq, Int.reduceLT, Int.reduceLE, ↓reduceIte, c1, itr, srF, l6, c8, hq, if_neg q2, if_neg q1, h4, if_neg q3, w32_k1 (show k < 2147483647 by omega)]
          exact h2
  have hla := T5_lateOf (X := X) (mem := mem) (g := g) (y1 := vS) h hl hc
  have hg1 := GQ_gTh (d := d) hl
  obtain ⟨g', h1, h2⟩ := key (d.1 0).toNat 0 (lat d c, -9) (gTh g d) vS hg1.2.2.1 (by omega)
  refine ⟨g', GQ_trans hg1 h1, Eq.trans ?_ h2⟩
  simp only [eX5_slight_0, eX5_slight_1, eX5_slight_2, eX5_slight_5, eX5_slight_8, eX5_slight_9, eX5_slight_12, eX5_slight_13, eX5_slight_16, eX5_slight_17, eX5_slight_18, eX5_slight_21, eX5_slight_23, eX5_slight_26, eX5_slight_27, eX5_slight_28, eX5_slight_29, eX5_slight_32, eX5_slight_33, eX5_slight_34, eX5_slight_37, eX5_slight_38, eX5_slight_40, eX5_slight_41, eX5_slight_42, eX5_slight_43, eX5_slight_46, eX5_slight_48, eX5_slight_49, evb_some, evm_some, evc_some, evc_none, gd, if_true, if_false, eq_self, and_self, and_true, true_and, ne_eq, not_false_eq_true, or_true, true_or, mg, mf0, mf1, mf2, mf3, mf4, mf5, mf6, mf7, mf8, mf9, mf10, mf11, mf12, mf13, mf14, mf15, mf16, mf17, mf18, mf19, mf20, mf21, mf22, mf23, mf24, mf25, mf26, mf27, ma54, ma55, ma56, ma57, ma58, ma59, ma60, ma61, ma62, ma63, ma64, ma65, ma66, ma67, ma68, ma69, ma70, ma71, Int.reduceEq, Int.reduceLT, Int.reduceLE, ↓reduceIte, T5_isParcelY (show 0 ≤ (c : Int) ∧ (c : Int) < d.1 1 by omega), l8, c8, hs, hla]
  rfl
theorem lat_lt {d e : ST} {c : Nat} : lat d c < lat e c ↔ whS d c < whS e c := by
  have h1 := whS_le d c
  have h2 := whS_le e c
  unfold lat
  split <;> split <;> omega
theorem sl_eq (d : ST) (c q : Nat) : ∀ (m k : Nat) (e : ST) (b : Int), (itr (slF d c q) m k (whS e c, b)).2 = (itr (srF d c q) m k (lat e c, b)).2
  | 0, _, _, _ => rfl
  | m + 1, k, e, b => by
    show (itr (slF d c q) m (k + 1) (slF d c q k (whS e c, b))).2 = (itr (srF d c q) m (k + 1) (srF d c q k (lat e c, b))).2
    unfold slF srF
    dsimp only
    have hle := whS_le e c
    have hb : lat e c ≤ 1000 := by unfold lat; split <;> omega
    by_cases q1 : k = q
    · rw [if_pos q1, if_pos q1, if_neg (by omega)]
      exact sl_eq d c q m (k + 1) e b
    · rw [if_neg q1, if_neg q1]
      by_cases q2 : whS (addH d k q 10) c < whS e c
      · rw [if_pos q2, if_pos (lat_lt.2 q2)]
        exact sl_eq d c q m (k + 1) (addH d k q 10) _
      · rw [if_neg q2, if_neg (fun z => q2 (lat_lt.1 z))]
        exact sl_eq d c q m (k + 1) e b
theorem B_slight (h : Rla n t mi la g gm) (c : Int) : Bth X m_X4_slight [vI c, vS] m_X5_slight [vI c, vS, vS, vS, vS, vS] mem n t mi la g gm := by
  have hW := h.1; have hL := hW.1; have h6 := hW.2.1.2; have h8 := hW.2.2.1.2; have hg := Rla_g h; have hm := Rla_m h; obtain ⟨l1, l2, l3, l4, l5, l6, l7, l8, l9, l10⟩ := id hL
  have hk := Rla_k h
  by_cases c1 : 0 ≤ c ∧ c < n.1 1
  case neg => exact Bth_no1 h (fun M => by simp only [eX4_slight_0, eX4_slight_1, eX4_slight_2, eX4_slight_5, eX4_slight_6, eX4_slight_7, eX4_slight_10, eX4_slight_11, eX4_slight_12, eX4_slight_15, eX4_slight_18, eX4_slight_19, eX4_slight_22, eX4_slight_23, eX4_slight_26, eX4_slight_27, eX4_slight_30, evb_some, evm_some, evc_some, evc_none, gd, if_true, if_false, eq_self, and_self, and_true, true_and, ne_eq, not_false_eq_true, or_true, true_or, cf0_0, cf0_1, cf0_2, cf0_3, cf0_4, cf0_5, cf0_6, cf23_0, cf23_1, cf23_2, cf23_3, cf48_0, cf48_1, cf50_0, cf50_1, cg0, cg23, cg48, cg50, cg1, cg12, cg24, cg35, Int.reduceEq, Int.reduceLT, Int.reduceLE, ↓reduceIte, T4_notWaitingN c1, T4_no1 hg]) (fun M => by simp only [eX5_slight_0, eX5_slight_1, eX5_slight_2, eX5_slight_5, eX5_slight_8, eX5_slight_9, eX5_slight_12, eX5_slight_13, eX5_slight_16, eX5_slight_17, eX5_slight_18, eX5_slight_21, eX5_slight_23, eX5_slight_26, eX5_slight_27, eX5_slight_28, eX5_slight_29, eX5_slight_32, eX5_slight_33, eX5_slight_34, eX5_slight_37, evb_some, evm_some, evc_some, evc_none, gd, if_true, if_false, eq_self, and_self, and_true, true_and, ne_eq, not_false_eq_true, or_true, true_or, mg, mf0, mf1, mf2, mf3, mf4, mf5, mf6, mf7, mf8, mf9, mf10, mf11, mf12, mf13, mf14, mf15, mf16, mf17, mf18, mf19, mf20, mf21, mf22, mf23, mf24, mf25, mf26, mf27, ma54, ma55, ma56, ma57, ma58, ma59, ma60, ma61, ma62, ma63, ma64, ma65, ma66, ma67, ma68, ma69, ma70, ma71, Int.reduceEq, Int.reduceLT, Int.reduceLE, ↓reduceIte, T5_isParcelN c1, T5_no1 hm])
  obtain ⟨i, rfl⟩ := n2i c1.1
  have i8 : i < 8 := by omega
  by_cases c2 : (n.2 8).getD i 0 = 0
  case neg => exact Bth_no3 h (fun M => by simp only [eX4_slight_0, eX4_slight_1, eX4_slight_2, eX4_slight_5, eX4_slight_6, eX4_slight_7, eX4_slight_10, eX4_slight_11, eX4_slight_12, eX4_slight_15, eX4_slight_18, eX4_slight_19, eX4_slight_22, eX4_slight_23, eX4_slight_26, eX4_slight_27, eX4_slight_30, evb_some, evm_some, evc_some, evc_none, gd, if_true, if_false, eq_self, and_self, and_true, true_and, ne_eq, not_false_eq_true, or_true, true_or, cf0_0, cf0_1, cf0_2, cf0_3, cf0_4, cf0_5, cf0_6, cf23_0, cf23_1, cf23_2, cf23_3, cf48_0, cf48_1, cf50_0, cf50_1, cg0, cg23, cg48, cg50, cg1, cg12, cg24, cg35, Int.reduceEq, Int.reduceLT, Int.reduceLE, ↓reduceIte, T4_notWaitingS hW c1.2 c2, T4_no3 hg]) (fun M => by simp only [eX5_slight_0, eX5_slight_1, eX5_slight_2, eX5_slight_5, eX5_slight_8, eX5_slight_9, eX5_slight_12, eX5_slight_13, eX5_slight_16, eX5_slight_17, eX5_slight_18, eX5_slight_21, eX5_slight_23, eX5_slight_26, eX5_slight_27, eX5_slight_28, eX5_slight_29, eX5_slight_32, eX5_slight_33, eX5_slight_34, eX5_slight_37, evb_some, evm_some, evc_some, evc_none, gd, if_true, if_false, eq_self, and_self, and_true, true_and, ne_eq, not_false_eq_true, or_true, true_or, mg, mf0, mf1, mf2, mf3, mf4, mf5, mf6, mf7, mf8, mf9, mf10, mf11, mf12, mf13, mf14, mf15, mf16, mf17, mf18, mf19, mf20, mf21, mf22, mf23, mf24, mf25, mf26, mf27, ma54, ma55, ma56, ma57, ma58, ma59, ma60, ma61, ma62, ma63, ma64, ma65, ma66, ma67, ma68, ma69, ma70, ma71, Int.reduceEq, Int.reduceLT, Int.reduceLE, ↓reduceIte, T5_isParcelY c1, l8, i8, c2, T5_no3 hm])
  obtain ⟨q, hq, hq2, hq6⟩ := to_n hW c1.2
  refine Bth_y (r := vI (slV n i q)) h (fun M => ?_) (fun M => ?_)
  · obtain ⟨d', h1, h2⟩ := T3_bestSlight (X := X) (mem := M) (t := t) (la := la) (g := g) hW h.2.2.1 c1.2 hq hq2
    exact ⟨d', la, h1.1, h.2.2.2.1, by simp only [eX4_slight_0, eX4_slight_1, eX4_slight_2, eX4_slight_5, eX4_slight_6, eX4_slight_7, eX4_slight_10, eX4_slight_11, eX4_slight_12, eX4_slight_15, eX4_slight_18, eX4_slight_19, eX4_slight_22, eX4_slight_23, eX4_slight_26, eX4_slight_27, eX4_slight_30, evb_some, evm_some, evc_some, evc_none, gd, if_true, if_false, eq_self, and_self, and_true, true_and, ne_eq, not_false_eq_true, or_true, true_or, cf0_0, cf0_1, cf0_2, cf0_3, cf0_4, cf0_5, cf0_6, cf23_0, cf23_1, cf23_2, cf23_3, cf48_0, cf48_1, cf50_0, cf50_1, cg0, cg23, cg48, cg50, cg1, cg12, cg24, cg35, Int.reduceEq, Int.reduceLT, Int.reduceLE, ↓reduceIte, T4_notWaitingY hW c1.2 c2, h2]⟩
  · obtain ⟨g', h1, h2⟩ := T5_slightLoop (X := X) (mem := M) hW hk c1.2 c2 hq hq2
    refine ⟨g', GQ_le h1 (by decide), ?_⟩
    rw [slV, sl_eq]
    exact h2
/-! MAKE UP -/
def mkF (d : ST) (c q k : Nat) (s : Nat × Int) : Nat × Int := if k = q then s else if s.1 < whS (peace d q k) c then (whS (peace d q k) c, (k : Int)) else s
def mkV (d : ST) (c q : Nat) : Int := (itr (mkF d c q) (d.1 0).toNat 0 (whS d c, -9)).2
theorem T3_worstPeace (h : DW n) (hmi : DL mi) {c q : Nat} (hc : (c : Int) < n.1 1) (hq : (n.2 6).getD c 0 = (q : Int)) (hq2 : (q : Int) < n.1 0) : ∃ d', DW d' ∧ ev X m_X3_worstPeace 0 [vR 23, vR 1, vI (c : Int), vS, vS, vS, vS, vS] [] (cpt mem n t mi la g) = some (some (vI (mkV n c q)), cpt mem n t d' la g) := by
  have h0 := h.2.1.1
  have h6 := h.2.1.2
  have h8 := h.2.2.1.2
  have key : ∀ (m k : Nat) (s : Nat × Int) (e : ST) (z : AV), DW e → k + m = (n.1 0).toNat → ∃ d', DW d' ∧ ev X m_X3_worstPeace 33 [vR 23, vR 1, vI (c : Int), vI (q : Int), vI ((s.1 : Nat) : Int), vI s.2, vI (k : Int), z] [] (cpt mem n t e la g) = some (some (vI (itr (mkF n c q) m k s).2), cpt mem n t d' la g) := by
    intro m
    induction m with
    | zero =>
      intro k s e z he hk
      have c1 : ¬ (k : Int) < n.1 0 := by omega
      refine ⟨e, he, ?_⟩
      rw [eX3_worstPeace_33]
      simp only [eX3_worstPeace_0, eX3_worstPeace_1, eX3_worstPeace_2, eX3_worstPeace_5, eX3_worstPeace_6, eX3_worstPeace_7, eX3_worstPeace_10, eX3_worstPeace_11, eX3_worstPeace_14, eX3_worstPeace_15, eX3_worstPeace_18, eX3_worstPeace_19, eX3_worstPeace_21, eX3_worstPeace_24, eX3_worstPeace_26, eX3_worstPeace_28, eX3_worstPeace_30, eX3_worstPeace_31, eX3_worstPeace_35, eX3_worstPeace_36, eX3_worstPeace_39, eX3_worstPeace_42, eX3_worstPeace_44, eX3_worstPeace_45, eX3_worstPeace_48, eX3_worstPeace_51, eX3_worstPeace_52, eX3_worstPeace_55, eX3_worstPeace_56, eX3_worstPeace_59, eX3_worstPeace_60, eX3_worstPeace_63, eX3_worstPeace_64, eX3_worstPeace_66, eX3_worstPeace_69, eX3_worstPeace_69r, eX3_worstPeace_70, eX3_worstPeace_71, eX3_worstPeace_74, eX3_worstPeace_75, eX3_worstPeace_77, eX3_worstPeace_80, eX3_worstPeace_82, eX3_worstPeace_84, eX3_worstPeace_86, eX3_worstPeace_89, eX3_worstPeace_91, eX3_worstPeace_93, eX3_worstPeace_95, eX3_worstPeace_97, eX3_worstPeace_100, eX3_worstPeace_103, eX3_worstPeace_105, evb_some, evm_some, evc_some, evc_none, gd, if_true, if_false, eq_self, and_self, and_true, true_and, ne_eq, not_false_eq_true, or_true, true_or, cf0_0, cf0_1, cf0_2, cf0_3, cf0_4, cf0_5, cf0_6, cf23_0, cf23_1, cf23_2, cf23_3, cf48_0, cf48_1, cf50_0, cf50_1, cg0, cg23, cg48, cg50, cg1, cg12, cg24, cg35, Int.reduceEq, Int.reduceLT, Int.reduceLE, ↓reduceIte, q1_0, q1_1, q1_2, q1_3, q1_4, q1_5, q1_6, q1_7, q1_8, q1_9, q1_10, q1_11, q1_12, q12_0, q12_1, q12_2, q12_3, q12_4, q12_5, q12_6, q12_7, q12_8, q12_9, q12_10, q12_11, q12_12, q24_0, q24_1, q24_2, q24_3, q24_4, q24_5, q24_6, q24_7, q24_8, q24_9, q24_10, q24_11, q24_12, q35_0, q35_1, q35_2, q35_3, q35_4, q35_5, q35_6, q35_7, q35_8, q35_9, q35_10, q35_11, q35_12, c1, itr]
    | succ m ih =>
      intro k s e z he hk
      have c1 : (k : Int) < n.1 0 := by omega
      by_cases q1 : k = q
      · subst q1
        obtain ⟨d', h1, h2⟩ := ih (k + 1) s e z he (by omega)
        refine ⟨d', h1, ?_⟩
        rw [eX3_worstPeace_33]
        simp only [eX3_worstPeace_0, eX3_worstPeace_1, eX3_worstPeace_2, eX3_worstPeace_5, eX3_worstPeace_6, eX3_worstPeace_7, eX3_worstPeace_10, eX3_worstPeace_11, eX3_worstPeace_14, eX3_worstPeace_15, eX3_worstPeace_18, eX3_worstPeace_19, eX3_worstPeace_21, eX3_worstPeace_24, eX3_worstPeace_26, eX3_worstPeace_28, eX3_worstPeace_30, eX3_worstPeace_31, eX3_worstPeace_35, eX3_worstPeace_36, eX3_worstPeace_39, eX3_worstPeace_42, eX3_worstPeace_44, eX3_worstPeace_45, eX3_worstPeace_48, eX3_worstPeace_51, eX3_worstPeace_52, eX3_worstPeace_55, eX3_worstPeace_56, eX3_worstPeace_59, eX3_worstPeace_60, eX3_worstPeace_63, eX3_worstPeace_64, eX3_worstPeace_66, eX3_worstPeace_69, eX3_worstPeace_69r, eX3_worstPeace_70, eX3_worstPeace_71, eX3_worstPeace_74, eX3_worstPeace_75, eX3_worstPeace_77, eX3_worstPeace_80, eX3_worstPeace_82, eX3_worstPeace_84, eX3_worstPeace_86, eX3_worstPeace_89, eX3_worstPeace_91, eX3_worstPeace_93, eX3_worstPeace_95, eX3_worstPeace_97, eX3_worstPeace_100, eX3_worstPeace_103, eX3_worstPeace_105, evb_some, evm_some, evc_some, evc_none, gd, if_true, if_false, eq_self, and_self, and_true, true_and, ne_eq, not_false_eq_true, or_true, true_or, cf0_0, cf0_1, cf0_2, cf0_3, cf0_4, cf0_5, cf0_6, cf23_0, cf23_1, cf23_2, cf23_3, cf48_0, cf48_1, cf50_0, cf50_1, cg0, cg23, cg48, cg50, cg1, cg12, cg24, cg35, Int.reduceEq, Int.reduceLT, Int.reduceLE, ↓reduceIte, q1_0, q1_1, q1_2, q1_3, q1_4, q1_5, q1_6, q1_7, q1_8, q1_9, q1_10, q1_11, q1_12, q12_0, q12_1, q12_2, q12_3, q12_4, q12_5, q12_6, q12_7, q12_8, q12_9, q12_10, q12_11, q12_12, q24_0, q24_1, q24_2, q24_3, q24_4, q24_5, q24_6, q24_7, q24_8, q24_9, q24_10, q24_11, q24_12, q35_0, q35_1, q35_2, q35_3, q35_4, q35_5, q35_6, q35_7, q35_8, q35_9, q35_10, q35_11, q35_12, c1, itr, mkF, w32_k1 (show k < 2147483647 by omega)]
        exact h2
      · have q4 : q ≠ k := fun z => q1 z.symm
        have hA := DW_peace h hq2 c1 q4
        have ha := m_makePeace (X := X) (mem := mem) (n := n) (t := t) (la := la) (g := g) h.1 h6 hq2 c1 q4
        obtain ⟨e', h3, h4⟩ := m_dtb99 (X := X) (mem := mem) (n := n) (t := t) (la := la) (g := g) (z := vS) hA (show (c : Int) < (peace n q k).1 1 from hc)
        have q2 : ¬ (k : Int) = (q : Int) := by omega
        by_cases q3 : s.1 < whS (peace n q k) c
        · obtain ⟨d', h1, h2⟩ := ih (k + 1) (whS (peace n q k) c, (k : Int)) e' (vI ((whS (peace n q k) c : Nat) : Int)) h3 (by omega)
          refine ⟨d', h1, ?_⟩
          rw [eX3_worstPeace_33]
          simp only [eX3_worstPeace_0, eX3_worstPeace_1, eX3_worstPeace_2, eX3_worstPeace_5, eX3_worstPeace_6, eX3_worstPeace_7, eX3_worstPeace_10, eX3_worstPeace_11, eX3_worstPeace_14, eX3_worstPeace_15, eX3_worstPeace_18, eX3_worstPeace_19, eX3_worstPeace_21, eX3_worstPeace_24, eX3_worstPeace_26, eX3_worstPeace_28, eX3_worstPeace_30, eX3_worstPeace_31, eX3_worstPeace_35, eX3_worstPeace_36, eX3_worstPeace_39, eX3_worstPeace_42, eX3_worstPeace_44, eX3_worstPeace_45, eX3_worstPeace_48, eX3_worstPeace_51, eX3_worstPeace_52, eX3_worstPeace_55, eX3_worstPeace_56, eX3_worstPeace_59, eX3_worstPeace_60, eX3_worstPeace_63, eX3_worstPeace_64, eX3_worstPeace_66, eX3_worstPeace_69, eX3_worstPeace_69r, eX3_worstPeace_70, eX3_worstPeace_71, eX3_worstPeace_74, eX3_worstPeace_75, eX3_worstPeace_77, eX3_worstPeace_80, eX3_worstPeace_82, eX3_worstPeace_84, eX3_worstPeace_86, eX3_worstPeace_89, eX3_worstPeace_91, eX3_worstPeace_93, eX3_worstPeace_95, eX3_worstPeace_97, eX3_worstPeace_100, eX3_worstPeace_103, eX3_worstPeace_105, evb_some, evm_some, evc_some, evc_none, gd, if_true, if_false, eq_self, and_self, and_true, true_and, ne_eq, not_false_eq_true, or_true, true_or, cf0_0, cf0_1, cf0_2, cf0_3, cf0_4, cf0_5, cf0_6, cf23_0, cf23_1, cf23_2, cf23_3, cf48_0, cf48_1, cf50_0, cf50_1, cg0, cg23, cg48, cg50, cg1, cg12, cg24, cg35, Int.reduceEq, Int.reduceLT, Int.reduceLE, ↓reduceIte, q1_0, q1_1, q1_2, q1_3, q1_4, q1_5, q1_6, q1_7, q1_8, q1_9, q1_10, q1_11, q1_12, q12_0, q12_1, q12_2, q12_3, q12_4, q12_5, q12_6, q12_7, q12_8, q12_9, q12_10, q12_11, q12_12, q24_0, q24_1, q24_2, q24_3, q24_4, q24_5, q24_6, q24_7, q24_8, q24_9, q24_10, q24_11, q24_12, q35_0, q35_1, q35_2, q35_3, q35_4, q35_5, q35_6, q35_7, q35_8, q35_9, q35_10, q35_11, q35_12, c1, itr, mkF, q1, q2, b24_1 he.1 h.1, ha, h4, Int.ofNat_lt, q3, w32_k1 (show k < 2147483647 by omega)]
          exact h2
        · obtain ⟨d', h1, h2⟩ := ih (k + 1) s e' (vI ((whS (peace n q k) c : Nat) : Int)) h3 (by omega)
          refine ⟨d', h1, ?_⟩
          rw [eX3_worstPeace_33]
          simp only [eX3_worstPeace_0, eX3_worstPeace_1, eX3_worstPeace_2, eX3_worstPeace_5, eX3_worstPeace_6, eX3_worstPeace_7, eX3_worstPeace_10, eX3_worstPeace_11, eX3_worstPeace_14, eX3_worstPeace_15, eX3_worstPeace_18, eX3_worstPeace_19, eX3_worstPeace_21, eX3_worstPeace_24, eX3_worstPeace_26, eX3_worstPeace_28, eX3_worstPeace_30, eX3_worstPeace_31, eX3_worstPeace_35, eX3_worstPeace_36, eX3_worstPeace_39, eX3_worstPeace_42, eX3_worstPeace_44, eX3_worstPeace_45, eX3_worstPeace_48, eX3_worstPeace_51, eX3_worstPeace_52, eX3_worstPeace_55, eX3_worstPeace_56, eX3_worstPeace_59, eX3_worstPeace_60, eX3_worstPeace_63, eX3_worstPeace_64, eX3_worstPeace_66, eX3_worstPeace_69, eX3_worstPeace_69r, eX3_worstPeace_70, eX3_worstPeace_71, eX3_worstPeace_74, eX3_worstPeace_75, eX3_worstPeace_77, eX3_worstPeace_80, eX3_worstPeace_82, eX3_worstPeace_84, eX3_worstPeace_86, eX3_worstPeace_89, eX3_worstPeace_91, eX3_worstPeace_93, eX3_worstPeace_95, eX3_worstPeace_97, eX3_worstPeace_100, eX3_worstPeace_103, eX3_worstPeace_105, evb_some, evm_some, evc_some, evc_none, gd, if_true, if_false, eq_self, and_self, and_true, true_and, ne_eq, not_false_eq_true, or_true, true_or, cf0_0, cf0_1, cf0_2, cf0_3, cf0_4, cf0_5, cf0_6, cf23_0, cf23_1, cf23_2, cf23_3, cf48_0, cf48_1, cf50_0, cf50_1, cg0, cg23, cg48, cg50, cg1, cg12, cg24, cg35, Int.reduceEq, Int.reduceLT, Int.reduceLE, ↓reduceIte, q1_0, q1_1, q1_2, q1_3, q1_4, q1_5, q1_6, q1_7, q1_8, q1_9, q1_10, q1_11, q1_12, q12_0, q12_1, q12_2, q12_3, q12_4, q12_5, q12_6, q12_7, q12_8, q12_9, q12_10, q12_11, q12_12, q24_0, q24_1, q24_2, q24_3, q24_4, q24_5, q24_6, q24_7, q24_8, q24_9, q24_10, q24_11, q24_12, q35_0, q35_1, q35_2, q35_3, q35_4, q35_5, q35_6, q35_7, q35_8, q35_9, q35_10, q35_11, q35_12, c1, itr, mkF, q1, q2, b24_1 he.1 h.1, ha, h4, Int.ofNat_lt, q3, w32_k1 (show k < 2147483647 by omega)]
          exact h2
  obtain ⟨e, h3, h4⟩ := m_dtb99 (X := X) (mem := mem) (n := n) (t := t) (la := la) (g := g) (z := vS) h hc
  obtain ⟨d', h1, h2⟩ := key (n.1 0).toNat 0 (whS n c, -9) e vS h3 (by omega)
  refine ⟨d', h1, Eq.trans ?_ h2⟩
  simp only [eX3_worstPeace_0, eX3_worstPeace_1, eX3_worstPeace_2, eX3_worstPeace_5, eX3_worstPeace_6, eX3_worstPeace_7, eX3_worstPeace_10, eX3_worstPeace_11, eX3_worstPeace_14, eX3_worstPeace_15, eX3_worstPeace_18, eX3_worstPeace_19, eX3_worstPeace_21, eX3_worstPeace_24, eX3_worstPeace_26, eX3_worstPeace_28, eX3_worstPeace_30, eX3_worstPeace_31, evb_some, evm_some, evc_some, evc_none, gd, if_true, if_false, eq_self, and_self, and_true, true_and, ne_eq, not_false_eq_true, or_true, true_or, cf0_0, cf0_1, cf0_2, cf0_3, cf0_4, cf0_5, cf0_6, cf23_0, cf23_1, cf23_2, cf23_3, cf48_0, cf48_1, cf50_0, cf50_1, cg0, cg23, cg48, cg50, cg1, cg12, cg24, cg35, Int.reduceEq, Int.reduceLT, Int.reduceLE, ↓reduceIte, n_receiverOf h.1 hc h8, hq, b24_1 hmi h.1, h4]
  rfl
def mrF (d : ST) (c q k : Nat) (s : Int × Int) : Int × Int := if k = q then (if s.1 < -9 then (-9, (k : Int)) else s) else if s.1 < lat (peace d k q) c then (lat (peace d k q) c, (k : Int)) else s
theorem T5_latePeace (h : DW d) (hl : (g.2 5).length = 309) {c q p : Nat} (hc : (c : Int) < d.1 1) (hq : (d.2 6).getD c 0 = (q : Int)) (hq2 : (q : Int) < d.1 0) (hp : (p : Int) < d.1 0) (hpq : p ≠ q) : ∃ g', GQ g g' 103 ∧ ev X m_X5_latePeace 0 [vR 53, vI (c : Int), vI (p : Int), vS] [] (mpt mem g d) = some (some (vI (lat (peace d p q) c)), mpt mem g' d) := by
  have h6 := h.2.1.2
  have h8 := h.2.2.1.2
  have hL := h.1
  have p6 : p < 6 := by omega
  have q6 : q < 6 := by omega
  have c8 : c < 8 := by omega
  obtain ⟨l1, l2, l3, l4, l5, l6, l7, l8, l9, l10⟩ := id hL
  have hA := DW_peace h hp hq2 hpq
  have g1 := GQ_gC (d := d) hl
  have g2 := GQ_gTh (d := peace d p q) g1.2.2.1
  have hla := T5_lateOf (X := X) (mem := mem) (g := gC g d) (y1 := vS) hA g1.2.2.1 (show (c : Int) < (peace d p q).1 1 from hc)
  have hb := T5_changesBack (X := X) (mem := mem) (g2 := gTh (gC g d) (peace d p q)) hA.1 hL g2.2.2.1 (KB_GQ g2 (KB_gC hl))
  refine ⟨gG (gTh (gC g d) (peace d p q)) ((gTh (gC g d) (peace d p q)).2 5) 0 206, GQ_trans g1 (GQ_trans (GQ_le g2 (by decide)) (GQ_gG g2.2.2.1 (fun _ _ => rfl))), ?_⟩
  simp only [eX5_latePeace_0, eX5_latePeace_1, eX5_latePeace_4, eX5_latePeace_5, eX5_latePeace_6, eX5_latePeace_7, eX5_latePeace_10, eX5_latePeace_11, eX5_latePeace_12, eX5_latePeace_15, eX5_latePeace_16, eX5_latePeace_17, eX5_latePeace_20, eX5_latePeace_21, eX5_latePeace_22, eX5_latePeace_25, eX5_latePeace_26, evb_some, evm_some, evc_some, evc_none, gd, if_true, if_false, eq_self, and_self, and_true, true_and, ne_eq, not_false_eq_true, or_true, true_or, mg, mf0, mf1, mf2, mf3, mf4, mf5, mf6, mf7, mf8, mf9, mf10, mf11, mf12, mf13, mf14, mf15, mf16, mf17, mf18, mf19, mf20, mf21, mf22, mf23, mf24, mf25, mf26, mf27, ma54, ma55, ma56, ma57, ma58, ma59, ma60, ma61, ma62, ma63, ma64, ma65, ma66, ma67, ma68, ma69, ma70, ma71, l6, c8, hq, T5_changes hL hl, T5_madeUp hL p6 q6, hla, hb]
theorem T5_makeUpLoop (h : DW d) (hl : (g.2 5).length = 309) {c q : Nat} (hc : (c : Int) < d.1 1) (hs : (d.2 8).getD c 0 = 0) (hq : (d.2 6).getD c 0 = (q : Int)) (hq2 : (q : Int) < d.1 0) : ∃ g', GQ g g' 103 ∧ ev X m_X5_makeUp 0 [vR 53, vI (c : Int), vS, vS, vS, vS, vS] [] (mpt mem g d) = some (some (vI (itr (mrF d c q) (d.1 0).toNat 0 (lat d c, -9)).2), mpt mem g' d) := by
  have h0 := h.2.1.1
  have h6 := h.2.1.2
  have h8 := h.2.2.1.2
  have c8 : c < 8 := by omega
  obtain ⟨l1, l2, l3, l4, l5, l6, l7, l8, l9, l10⟩ := id h.1
  have key : ∀ (m k : Nat) (s : Int × Int) (g : ST) (z : AV), (g.2 5).length = 309 → k + m = (d.1 0).toNat → ∃ g', GQ g g' 103 ∧ ev X m_X5_makeUp 51 [vR 53, vI (c : Int), vI 0, vI s.2, vI s.1, vI (k : Int), z] [] (mpt mem g d) = some (some (vI (itr (mrF d c q) m k s).2), mpt mem g' d) := by
    intro m
    induction m with
    | zero =>
      intro k s g z hl hk
      have c1 : ¬ (k : Int) < d.1 0 := by omega
      refine ⟨g, GQ_rfl hl, ?_⟩
      rw [eX5_makeUp_51]
      simp only [eX5_makeUp_0, eX5_makeUp_1, eX5_makeUp_2, eX5_makeUp_5, eX5_makeUp_8, eX5_makeUp_9, eX5_makeUp_12, eX5_makeUp_13, eX5_makeUp_16, eX5_makeUp_17, eX5_makeUp_18, eX5_makeUp_21, eX5_makeUp_23, eX5_makeUp_26, eX5_makeUp_27, eX5_makeUp_28, eX5_makeUp_29, eX5_makeUp_32, eX5_makeUp_33, eX5_makeUp_34, eX5_makeUp_37, eX5_makeUp_38, eX5_makeUp_40, eX5_makeUp_41, eX5_makeUp_42, eX5_makeUp_43, eX5_makeUp_46, eX5_makeUp_48, eX5_makeUp_49, eX5_makeUp_53, eX5_makeUp_54, eX5_makeUp_57, eX5_makeUp_60, eX5_makeUp_62, eX5_makeUp_63, eX5_makeUp_66, eX5_makeUp_67, eX5_makeUp_68, eX5_makeUp_71, eX5_makeUp_73, eX5_makeUp_76, eX5_makeUp_77, eX5_makeUp_78, eX5_makeUp_80, eX5_makeUp_83, eX5_makeUp_85, eX5_makeUp_87, eX5_makeUp_89, eX5_makeUp_92, eX5_makeUp_95, eX5_makeUp_97, eX5_makeUp_98, eX5_makeUp_100, eX5_makeUp_102, eX5_makeUp_105, eX5_makeUp_108, eX5_makeUp_109, evb_some, evm_some, evc_some, evc_none, gd, if_true, if_false, eq_self, and_self, and_true, true_and, ne_eq, not_false_eq_true, or_true, true_or, mg, mf0, mf1, mf2, mf3, mf4, mf5, mf6, mf7, mf8, mf9, mf10, mf11, mf12, mf13, mf14, mf15, mf16, mf17, mf18, mf19, mf20, mf21, mf22, mf23, mf24, mf25, mf26, mf27, ma54, ma55, ma56, ma57, ma58, ma59, ma60, ma61, ma62, ma63, ma64, ma65, ma66, ma67, ma68, ma69, ma70, ma71, Int.reduceEq, Int.reduceLT, Int.reduceLE, ↓reduceIte, c1, itr]
    | succ m ih =>
      intro k s g z hl hk
      have c1 : (k : Int) < d.1 0 := by omega
      by_cases q1 : k = q
      · have q2 : (k : Int) = (q : Int) := by omega
        by_cases q3 : s.1 < -9
        · obtain ⟨g', h1, h2⟩ := ih (k + 1) (-9, (k : Int)) g (vI (-9)) hl (by omega)
          refine ⟨g', h1, ?_⟩
          rw [eX5_makeUp_51]
          simp only [eX5_makeUp_0, eX5_makeUp_1, eX5_makeUp_2, eX5_makeUp_5, eX5_makeUp_8, eX5_makeUp_9, eX5_makeUp_12, eX5_makeUp_13, eX5_makeUp_16, eX5_makeUp_17, eX5_makeUp_18, eX5_makeUp_21, eX5_makeUp_23, eX5_makeUp_26, eX5_makeUp_27, eX5_makeUp_28, eX5_makeUp_29, eX5_makeUp_32, eX5_makeUp_33, eX5_makeUp_34, eX5_makeUp_37, eX5_makeUp_38, eX5_makeUp_40, eX5_makeUp_41, eX5_makeUp_42, eX5_makeUp_43, eX5_makeUp_46, eX5_makeUp_48, eX5_makeUp_49, eX5_makeUp_53, eX5_makeUp_54, eX5_makeUp_57, eX5_makeUp_60, eX5_makeUp_62, eX5_makeUp_63, eX5_makeUp_66, eX5_makeUp_67, eX5_makeUp_68, eX5_makeUp_71, eX5_makeUp_73, eX5_makeUp_76, eX5_makeUp_77, eX5_makeUp_78, eX5_makeUp_80, eX5_makeUp_83, eX5_makeUp_85, eX5_makeUp_87, eX5_makeUp_89, eX5_makeUp_92, eX5_makeUp_95, eX5_makeUp_97, eX5_makeUp_98, eX5_makeUp_100, eX5_makeUp_102, eX5_makeUp_105, eX5_makeUp_108, eX5_makeUp_109, evb_some, evm_some, evc_some, evc_none, gd, if_true, if_false, eq_self, and_self, and_true, true_and, ne_eq, not_false_eq_true, or_true, true_or, mg, mf0, mf1, mf2, mf3, mf4, mf5, mf6, mf7, mf8, mf9, mf10, mf11, mf12, mf13, mf14, mf15, mf16, mf17, mf18, mf19, mf20, mf21, mf22, mf23, mf24, mf25, mf26, mf27, ma54, ma55, ma56, ma57, ma58, ma59, ma60, ma61, ma62, ma63, ma64, ma65, ma66, ma67, ma68, ma69, ma70, ma71, Int.reduceEq, Int.reduceLT, Int.reduceLE, ↓reduceIte, c1, itr, mrF, l6, c8, hq, if_pos q2, if_pos q1, if_pos q3, w32_k1 (show k < 2147483647 by omega)]
          exact h2
        · obtain ⟨g', h1, h2⟩ := ih (k + 1) s g (vI (-9)) hl (by omega)
          refine ⟨g', h1, ?_⟩
          rw [eX5_makeUp_51]
          simp only [eX5_makeUp_0, eX5_makeUp_1, eX5_makeUp_2, eX5_makeUp_5, eX5_makeUp_8, eX5_makeUp_9, eX5_makeUp_12, eX5_makeUp_13, eX5_makeUp_16, eX5_makeUp_17, eX5_makeUp_18, eX5_makeUp_21, eX5_makeUp_23, eX5_makeUp_26, eX5_makeUp_27, eX5_makeUp_28, eX5_makeUp_29, eX5_makeUp_32, eX5_makeUp_33, eX5_makeUp_34, eX5_makeUp_37, eX5_makeUp_38, eX5_makeUp_40, eX5_makeUp_41, eX5_makeUp_42, eX5_makeUp_43, eX5_makeUp_46, eX5_makeUp_48, eX5_makeUp_49, eX5_makeUp_53, eX5_makeUp_54, eX5_makeUp_57, eX5_makeUp_60, eX5_makeUp_62, eX5_makeUp_63, eX5_makeUp_66, eX5_makeUp_67, eX5_makeUp_68, eX5_makeUp_71, eX5_makeUp_73, eX5_makeUp_76, eX5_makeUp_77, eX5_makeUp_78, eX5_makeUp_80, eX5_makeUp_83, eX5_makeUp_85, eX5_makeUp_87, eX5_makeUp_89, eX5_makeUp_92, eX5_makeUp_95, eX5_makeUp_97, eX5_makeUp_98, eX5_makeUp_100, eX5_makeUp_102, eX5_makeUp_105, eX5_makeUp_108, eX5_makeUp_109, evb_some, evm_some, evc_some, evc_none, gd, if_true, if_false, eq_self, and_self, and_true, true_and, ne_eq, not_false_eq_true, or_true, true_or, mg, mf0, mf1, mf2, mf3, mf4, mf5, mf6, mf7, mf8, mf9, mf10, mf11, mf12, mf13, mf14, mf15, mf16, mf17, mf18, mf19, mf20, mf21, mf22, mf23, mf24, mf25, mf26, mf27, ma54, ma55, ma56, ma57, ma58, ma59, ma60, ma61, ma62, ma63, ma64, ma65, ma66, ma67, ma68, ma69, ma70, ma71, Int.reduceEq, Int.reduceLT, Int.reduceLE, ↓reduceIte, c1, itr, mrF, l6, c8, hq, if_pos q2, if_pos q1, if_neg q3, w32_k1 (show k < 2147483647 by omega)]
          exact h2
      · have q2 : ¬ (k : Int) = (q : Int) := by omega
        obtain ⟨g1, h3, h4⟩ := T5_latePeace (X := X) (mem := mem) h hl hc hq hq2 c1 q1
        by_cases q3 : s.1 < lat (peace d k q) c
        · obtain ⟨g', h1, h2⟩ := ih (k + 1) (lat (peace d k q) c, (k : Int)) g1 (vI (lat (peace d k q) c)) h3.2.2.1 (by omega)
          refine ⟨g', GQ_trans h3 h1, ?_⟩
          rw [eX5_makeUp_51]
          simp only [eX5_makeUp_0, eX5_makeUp_1, eX5_makeUp_2, eX5_makeUp_5, eX5_makeUp_8, eX5_makeUp_9, eX5_makeUp_12, eX5_makeUp_13, eX5_makeUp_16, eX5_makeUp_17, eX5_makeUp_18, eX5_makeUp_21, eX5_makeUp_23, eX5_makeUp_26, eX5_makeUp_27, eX5_makeUp_28, eX5_makeUp_29, eX5_makeUp_32, eX5_makeUp_33, eX5_makeUp_34, eX5_makeUp_37, eX5_makeUp_38, eX5_makeUp_40, eX5_makeUp_41, eX5_makeUp_42, eX5_makeUp_43, eX5_makeUp_46, eX5_makeUp_48, eX5_makeUp_49, eX5_makeUp_53, eX5_makeUp_54, eX5_makeUp_57, eX5_makeUp_60, eX5_makeUp_62, eX5_makeUp_63, eX5_makeUp_66, eX5_makeUp_67, eX5_makeUp_68, eX5_makeUp_71, eX5_makeUp_73, eX5_makeUp_76, eX5_makeUp_77, eX5_makeUp_78, eX5_makeUp_80, eX5_makeUp_83, eX5_makeUp_85, eX5_makeUp_87, eX5_makeUp_89, eX5_makeUp_92, eX5_makeUp_95, eX5_makeUp_97, eX5_makeUp_98, eX5_makeUp_100, eX5_makeUp_102, eX5_makeUp_105, eX5_makeUp_108, eX5_makeUp_109, evb_some, evm_some, evc_some, evc_none, gd, if_true, if_false, eq_self, and_self, and_true, true_and, ne_eq, not_false_eq_true, or_true, true_or, mg, mf0, mf1, mf2, mf3, mf4, mf5, mf6, mf7, mf8, mf9, mf10, mf11, mf12, mf13, mf14, mf15, mf16, mf17, mf18, mf19, mf20, mf21, mf22, mf23, mf24, mf25, mf26, mf27, ma54, ma55, ma56, ma57, ma58, ma59, ma60, ma61, ma62, ma63, ma64, ma65, ma66, ma67, ma68, ma69, ma70, ma71, Int.reduceEq, Int.reduceLT, Int.reduceLE, ↓reduceIte, c1, itr, mrF, l6, c8, hq, if_neg q2, if_neg q1, h4, if_pos q3, w32_k1 (show k < 2147483647 by omega)]
          exact h2
        · obtain ⟨g', h1, h2⟩ := ih (k + 1) s g1 (vI (lat (peace d k q) c)) h3.2.2.1 (by omega)
          refine ⟨g', GQ_trans h3 h1, ?_⟩
          rw [eX5_makeUp_51]
          simp only [eX5_makeUp_0, eX5_makeUp_1, eX5_makeUp_2, eX5_makeUp_5, eX5_makeUp_8, eX5_makeUp_9, eX5_makeUp_12, eX5_makeUp_13, eX5_makeUp_16, eX5_makeUp_17, eX5_makeUp_18, eX5_makeUp_21, eX5_makeUp_23, eX5_makeUp_26, eX5_makeUp_27, eX5_makeUp_28, eX5_makeUp_29, eX5_makeUp_32, eX5_makeUp_33, eX5_makeUp_34, eX5_makeUp_37, eX5_makeUp_38, eX5_makeUp_40, eX5_makeUp_41, eX5_makeUp_42, eX5_makeUp_43, eX5_makeUp_46, eX5_makeUp_48, eX5_makeUp_49, eX5_makeUp_53, eX5_makeUp_54, eX5_makeUp_57, eX5_makeUp_60, eX5_makeUp_62, eX5_makeUp_63, eX5_makeUp_66, eX5_makeUp_67, eX5_makeUp_68, eX5_makeUp_71, eX5_makeUp_73, eX5_makeUp_76, eX5_makeUp_77, eX5_makeUp_78, eX5_makeUp_80, eX5_makeUp_83, eX5_makeUp_85, eX5_makeUp_87, eX5_makeUp_89, eX5_makeUp_92, eX5_makeUp_95, eX5_makeUp_97, eX5_makeUp_98, eX5_makeUp_100, eX5_makeUp_102, eX5_makeUp_105, eX5_makeUp_108, eX5_makeUp_109, evb_some, evm_some, evc_some, evc_none, gd, if_true, if_false, eq_self, and_self, and_true, true_and, ne_eq, not_false_eq_true, or_true, true_or, mg, mf0, mf1, mf2, mf3, mf4, mf5, mf6, mf7, mf8, mf9, mf10, mf11, mf12, mf13, mf14, mf15, mf16, mf17, mf18, mf19, mf20, mf21, mf22, mf23, mf24, mf25, mf26, mf27, ma54, ma55, ma56, ma57, ma58, ma59, ma60, ma61, ma62, ma63, ma64, ma65, ma66, ma67, ma68, ma69, ma70, ma71, Int.reduceEq, Int.reduceLT, Int.reduceLE, ↓reduceIte, c1, itr, mrF, l6, c8, hq, if_neg q2, if_neg q1, h4, if_neg q3, w32_k1 (show k < 2147483647 by omega)]
          exact h2
  have hla := T5_lateOf (X := X) (mem := mem) (g := g) (y1 := vS) h hl hc
  have hg1 := GQ_gTh (d := d) hl
  obtain ⟨g', h1, h2⟩ := key (d.1 0).toNat 0 (lat d c, -9) (gTh g d) vS hg1.2.2.1 (by omega)
  refine ⟨g', GQ_trans (GQ_le hg1 (by decide)) h1, Eq.trans ?_ h2⟩
  simp only [eX5_makeUp_0, eX5_makeUp_1, eX5_makeUp_2, eX5_makeUp_5, eX5_makeUp_8, eX5_makeUp_9, eX5_makeUp_12, eX5_makeUp_13, eX5_makeUp_16, eX5_makeUp_17, eX5_makeUp_18, eX5_makeUp_21, eX5_makeUp_23, eX5_makeUp_26, eX5_makeUp_27, eX5_makeUp_28, eX5_makeUp_29, eX5_makeUp_32, eX5_makeUp_33, eX5_makeUp_34, eX5_makeUp_37, eX5_makeUp_38, eX5_makeUp_40, eX5_makeUp_41, eX5_makeUp_42, eX5_makeUp_43, eX5_makeUp_46, eX5_makeUp_48, eX5_makeUp_49, evb_some, evm_some, evc_some, evc_none, gd, if_true, if_false, eq_self, and_self, and_true, true_and, ne_eq, not_false_eq_true, or_true, true_or, mg, mf0, mf1, mf2, mf3, mf4, mf5, mf6, mf7, mf8, mf9, mf10, mf11, mf12, mf13, mf14, mf15, mf16, mf17, mf18, mf19, mf20, mf21, mf22, mf23, mf24, mf25, mf26, mf27, ma54, ma55, ma56, ma57, ma58, ma59, ma60, ma61, ma62, ma63, ma64, ma65, ma66, ma67, ma68, ma69, ma70, ma71, Int.reduceEq, Int.reduceLT, Int.reduceLE, ↓reduceIte, T5_isParcelY (show 0 ≤ (c : Int) ∧ (c : Int) < d.1 1 by omega), l8, c8, hs, hla]
  rfl
theorem peace_comm (d : ST) {i j : Nat} (hi : i < 6) (hj : j < 6) (hij : i ≠ j) : peace d i j = peace d j i := by
  have e : ∀ v, hat (setH d i j v) j i = hat d j i := fun v => by
    show ((d.2 5).set (6 * i + j) v).getD (6 * j + i) 0 = (d.2 5).getD (6 * j + i) 0
    exact getD_ne (by omega)
  have e2 : ∀ v, hat (setH d j i v) i j = hat d i j := fun v => by
    show ((d.2 5).set (6 * j + i) v).getD (6 * i + j) 0 = (d.2 5).getD (6 * i + j) 0
    exact getD_ne (by omega)
  unfold peace
  rw [e, e2]
  refine ST_ext (fun _ => rfl) (fun k => ?_)
  unfold setH
  simp only [setL_2, if_true]
  by_cases q : k = 5
  · rw [if_pos q, if_pos q, List.set_comm _ _ (show 6 * i + j ≠ 6 * j + i by omega)]
  · rw [if_neg q, if_neg q, if_neg q, if_neg q]
theorem mk_eq (d : ST) (hd : d.1 0 ≤ 6) (c : Nat) {q : Nat} (hq : q < 6) : ∀ (m k : Nat) (e : ST) (b : Int), k + m ≤ 6 → (itr (mkF d c q) m k (whS e c, b)).2 = (itr (mrF d c q) m k (lat e c, b)).2
  | 0, _, _, _, _ => rfl
  | m + 1, k, e, b, hk => by
    show (itr (mkF d c q) m (k + 1) (mkF d c q k (whS e c, b))).2 = (itr (mrF d c q) m (k + 1) (mrF d c q k (lat e c, b))).2
    unfold mkF mrF
    dsimp only
    have hle := whS_le e c
    have hb : 0 ≤ lat e c := by unfold lat; split <;> omega
    by_cases q1 : k = q
    · rw [if_pos q1, if_pos q1, if_neg (by omega)]
      exact mk_eq d hd c hq m (k + 1) e b (by omega)
    · rw [if_neg q1, if_neg q1, peace_comm d hq (show k < 6 by omega) (fun z => q1 z.symm)]
      by_cases q2 : whS e c < whS (peace d k q) c
      · rw [if_pos q2, if_pos (lat_lt.2 q2)]
        exact mk_eq d hd c hq m (k + 1) (peace d k q) _ (by omega)
      · rw [if_neg q2, if_neg (fun z => q2 (lat_lt.1 z))]
        exact mk_eq d hd c hq m (k + 1) e b (by omega)
theorem B_makeUp (h : Rla n t mi la g gm) (c : Int) : Bth X m_X4_makeUp [vI c, vS] m_X5_makeUp [vI c, vS, vS, vS, vS, vS] mem n t mi la g gm := by
  have hW := h.1; have hL := hW.1; have h6 := hW.2.1.2; have h8 := hW.2.2.1.2; have hg := Rla_g h; have hm := Rla_m h; obtain ⟨l1, l2, l3, l4, l5, l6, l7, l8, l9, l10⟩ := id hL
  have hk := Rla_k h
  by_cases c1 : 0 ≤ c ∧ c < n.1 1
  case neg => exact Bth_no1 h (fun M => by simp only [eX4_makeUp_0, eX4_makeUp_1, eX4_makeUp_2, eX4_makeUp_5, eX4_makeUp_6, eX4_makeUp_7, eX4_makeUp_10, eX4_makeUp_11, eX4_makeUp_12, eX4_makeUp_15, eX4_makeUp_18, eX4_makeUp_19, eX4_makeUp_22, eX4_makeUp_23, eX4_makeUp_26, eX4_makeUp_27, eX4_makeUp_30, evb_some, evm_some, evc_some, evc_none, gd, if_true, if_false, eq_self, and_self, and_true, true_and, ne_eq, not_false_eq_true, or_true, true_or, cf0_0, cf0_1, cf0_2, cf0_3, cf0_4, cf0_5, cf0_6, cf23_0, cf23_1, cf23_2, cf23_3, cf48_0, cf48_1, cf50_0, cf50_1, cg0, cg23, cg48, cg50, cg1, cg12, cg24, cg35, Int.reduceEq, Int.reduceLT, Int.reduceLE, ↓reduceIte, T4_notWaitingN c1, T4_no1 hg]) (fun M => by simp only [eX5_makeUp_0, eX5_makeUp_1, eX5_makeUp_2, eX5_makeUp_5, eX5_makeUp_8, eX5_makeUp_9, eX5_makeUp_12, eX5_makeUp_13, eX5_makeUp_16, eX5_makeUp_17, eX5_makeUp_18, eX5_makeUp_21, eX5_makeUp_23, eX5_makeUp_26, eX5_makeUp_27, eX5_makeUp_28, eX5_makeUp_29, eX5_makeUp_32, eX5_makeUp_33, eX5_makeUp_34, eX5_makeUp_37, evb_some, evm_some, evc_some, evc_none, gd, if_true, if_false, eq_self, and_self, and_true, true_and, ne_eq, not_false_eq_true, or_true, true_or, mg, mf0, mf1, mf2, mf3, mf4, mf5, mf6, mf7, mf8, mf9, mf10, mf11, mf12, mf13, mf14, mf15, mf16, mf17, mf18, mf19, mf20, mf21, mf22, mf23, mf24, mf25, mf26, mf27, ma54, ma55, ma56, ma57, ma58, ma59, ma60, ma61, ma62, ma63, ma64, ma65, ma66, ma67, ma68, ma69, ma70, ma71, Int.reduceEq, Int.reduceLT, Int.reduceLE, ↓reduceIte, T5_isParcelN c1, T5_no1 hm])
  obtain ⟨i, rfl⟩ := n2i c1.1
  have i8 : i < 8 := by omega
  by_cases c2 : (n.2 8).getD i 0 = 0
  case neg => exact Bth_no3 h (fun M => by simp only [eX4_makeUp_0, eX4_makeUp_1, eX4_makeUp_2, eX4_makeUp_5, eX4_makeUp_6, eX4_makeUp_7, eX4_makeUp_10, eX4_makeUp_11, eX4_makeUp_12, eX4_makeUp_15, eX4_makeUp_18, eX4_makeUp_19, eX4_makeUp_22, eX4_makeUp_23, eX4_makeUp_26, eX4_makeUp_27, eX4_makeUp_30, evb_some, evm_some, evc_some, evc_none, gd, if_true, if_false, eq_self, and_self, and_true, true_and, ne_eq, not_false_eq_true, or_true, true_or, cf0_0, cf0_1, cf0_2, cf0_3, cf0_4, cf0_5, cf0_6, cf23_0, cf23_1, cf23_2, cf23_3, cf48_0, cf48_1, cf50_0, cf50_1, cg0, cg23, cg48, cg50, cg1, cg12, cg24, cg35, Int.reduceEq, Int.reduceLT, Int.reduceLE, ↓reduceIte, T4_notWaitingS hW c1.2 c2, T4_no3 hg]) (fun M => by simp only [eX5_makeUp_0, eX5_makeUp_1, eX5_makeUp_2, eX5_makeUp_5, eX5_makeUp_8, eX5_makeUp_9, eX5_makeUp_12, eX5_makeUp_13, eX5_makeUp_16, eX5_makeUp_17, eX5_makeUp_18, eX5_makeUp_21, eX5_makeUp_23, eX5_makeUp_26, eX5_makeUp_27, eX5_makeUp_28, eX5_makeUp_29, eX5_makeUp_32, eX5_makeUp_33, eX5_makeUp_34, eX5_makeUp_37, evb_some, evm_some, evc_some, evc_none, gd, if_true, if_false, eq_self, and_self, and_true, true_and, ne_eq, not_false_eq_true, or_true, true_or, mg, mf0, mf1, mf2, mf3, mf4, mf5, mf6, mf7, mf8, mf9, mf10, mf11, mf12, mf13, mf14, mf15, mf16, mf17, mf18, mf19, mf20, mf21, mf22, mf23, mf24, mf25, mf26, mf27, ma54, ma55, ma56, ma57, ma58, ma59, ma60, ma61, ma62, ma63, ma64, ma65, ma66, ma67, ma68, ma69, ma70, ma71, Int.reduceEq, Int.reduceLT, Int.reduceLE, ↓reduceIte, T5_isParcelY c1, l8, i8, c2, T5_no3 hm])
  obtain ⟨q, hq, hq2, hq6⟩ := to_n hW c1.2
  have h0 := hW.2.1.1
  refine Bth_y (r := vI (mkV n i q)) h (fun M => ?_) (fun M => ?_)
  · obtain ⟨d', h1, h2⟩ := T3_worstPeace (X := X) (mem := M) (t := t) (la := la) (g := g) hW h.2.2.1 c1.2 hq hq2
    exact ⟨d', la, h1.1, h.2.2.2.1, by simp only [eX4_makeUp_0, eX4_makeUp_1, eX4_makeUp_2, eX4_makeUp_5, eX4_makeUp_6, eX4_makeUp_7, eX4_makeUp_10, eX4_makeUp_11, eX4_makeUp_12, eX4_makeUp_15, eX4_makeUp_18, eX4_makeUp_19, eX4_makeUp_22, eX4_makeUp_23, eX4_makeUp_26, eX4_makeUp_27, eX4_makeUp_30, evb_some, evm_some, evc_some, evc_none, gd, if_true, if_false, eq_self, and_self, and_true, true_and, ne_eq, not_false_eq_true, or_true, true_or, cf0_0, cf0_1, cf0_2, cf0_3, cf0_4, cf0_5, cf0_6, cf23_0, cf23_1, cf23_2, cf23_3, cf48_0, cf48_1, cf50_0, cf50_1, cg0, cg23, cg48, cg50, cg1, cg12, cg24, cg35, Int.reduceEq, Int.reduceLT, Int.reduceLE, ↓reduceIte, T4_notWaitingY hW c1.2 c2, h2]⟩
  · obtain ⟨g', h1, h2⟩ := T5_makeUpLoop (X := X) (mem := M) hW hk c1.2 c2 hq hq2
    refine ⟨g', h1, ?_⟩
    rw [mkV, mk_eq n h6 i hq6 _ _ _ _ (by omega)]
    exact h2
end SL
