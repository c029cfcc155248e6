/-! DUCHY: both answer the same -/
section D3
variable {X : List Int} {mem M : AM} {n t mi la g gm d : ST} {L : List Int} {S : Nat}
def QD (gm gm' : ST) : Prop := (∀ k, k ≠ 0 → k ≠ 1 → k ≠ 2 → k ≠ 4 → k ≠ 5 → gm'.1 k = gm.1 k) ∧ gm'.1 0 = 0 ∧ (∀ k, k ≠ 2 → k ≠ 3 → k ≠ 4 → k ≠ 5 → gm'.2 k = gm.2 k) ∧ (gm'.2 2).length = 48 ∧ (gm'.2 3).length = 48 ∧ (gm'.2 4).length = 144 ∧ (gm'.2 5).length = 309 ∧ ∀ j, j < 103 → (gm'.2 5).getD j 0 = (gm.2 5).getD j 0
theorem QD_GQ {G' : ST} (h : QD gm g) (hq : GQ g G' 103) : QD gm G' := by
  obtain ⟨a1, a2, a3, a4, a5, a6, a7, a8⟩ := h
  obtain ⟨q1, q2, q3, q4⟩ := hq
  exact ⟨fun k k0 k1 k2 k4 k5 => (q1 k k4 k5).trans (a1 k k0 k1 k2 k4 k5), (q1 0 (by decide) (by decide)).trans a2, fun k k2 k3 k4 k5 => (q2 k k5).trans (a3 k k2 k3 k4 k5), by rw [q2 2 (by decide)]; exact a4, by rw [q2 3 (by decide)]; exact a5, by rw [q2 4 (by decide)]; exact a6, q3, fun j hj => (q4 j hj).trans (a8 j hj)⟩
theorem Rla_d {n' mi' gm' : ST} (h : Rla n t mi la g gm) (h1 : DW n') (h2 : DL mi') (hq : QD gm gm') : Rla n' t mi' la (setS g 1 0) gm' := by
  obtain ⟨a1, a2, a3, a4, a5, ⟨m0, m1, m2, m3, m4, m5, m6, m7⟩, h5, h6, h7, h8, h9, h10, h11, h12, h13, h14⟩ := h
  obtain ⟨b1, b2, b3, b4, b5, b6, b7, b8⟩ := hq
  refine ⟨h1, a2, h2, a4, a5, ⟨by rw [b3 0 (by decide) (by decide) (by decide) (by decide)]; exact m0, by rw [b3 1 (by decide) (by decide) (by decide) (by decide)]; exact m1, b4, b5, b6, b7, by rw [b3 6 (by decide) (by decide) (by decide) (by decide)]; exact m6, by rw [b3 7 (by decide) (by decide) (by decide) (by decide)]; exact m7⟩, ?_, by rw [b1 3 (by decide) (by decide) (by decide) (by decide) (by decide)]; exact h6, ⟨Int.le_refl 0, (show (0 : Int) ≤ 96 by decide)⟩, b2, h9, by rw [b1 6 (by decide) (by decide) (by decide) (by decide) (by decide)]; exact h10, by rw [b3 0 (by decide) (by decide) (by decide) (by decide)]; exact h11, by rw [b3 1 (by decide) (by decide) (by decide) (by decide)]; exact h12, by rw [b3 7 (by decide) (by decide) (by decide) (by decide)]; exact h13, h14⟩
  rcases h5 with h5 | ⟨c1, c2, c3⟩
  · exact Or.inl h5
  · exact Or.inr ⟨c1, c2, KB_of c3 (fun j _ hj => b8 j (by omega))⟩
theorem QD_0 {g' : ST} {w' : List Int} {x : Int} (hm : ML gm) (hc : GC (setS gm 2 0) g') (hw : w'.length = 144) : QD gm (sa (setS g' 0 0) x w') := by
  obtain ⟨m0, m1, m2, m3, m4, m5, m6, m7⟩ := hm
  obtain ⟨c1, c2, c3, c4⟩ := hc
  have e5 : (sa (setS g' 0 0) x w').2 5 = gm.2 5 := (show (sa (setS g' 0 0) x w').2 5 = g'.2 5 from rfl).trans (c2 5 (by decide) (by decide) (by decide))
  refine ⟨fun k k0 k1 k2 _ _ => ?_, rfl, fun k k2 k3 k4 _ => ?_, c3, c4, hw, by rw [e5]; exact m5, fun j _ => by rw [e5]⟩
  · show (setS (setS g' 0 0) 1 x).1 k = gm.1 k
    rw [setS_1, if_neg k1, setS_1, if_neg k0, c1 k k1 k2, setS_1, if_neg k2]
  · show (setL (setS (setS g' 0 0) 1 x) 4 w').2 k = gm.2 k
    rw [setL_2, if_neg k4]
    exact c2 k k2 k3 k4
theorem B_duchy (h : Rla n t mi la g gm) : Bth X m_X4_duchy [vS, vS, vS, vS, vS] m_X5_duchy [vS, vS] mem n t mi la g gm := by
  have hW := h.1
  have hL := hW.1
  have hg := Rla_g h
  have hm := Rla_m h
  obtain ⟨a1, a2, a3, a4, a5, a6, h5, h7, hx8, h9, h10, h11, h12, h13, h14, h15⟩ := id h
  obtain ⟨m0, m1, m2, m3, m4, m5, m6, m7⟩ := id hm
  obtain ⟨S, hS⟩ := n2i hx8.1
  have h96 : S ≤ 96 := by omega
  have hT : Tp (setS gm 2 0) (g.2 1) S := ⟨h9.trans hS, h13, h96, hg.2.1, h15⟩
  have hsp := prS_spec (g.2 1) S h96 30 0 (by omega) (fun k hk => by omega) (Or.inl rfl)
  have hpl := fun (mem : AM) => T5_parseLoop (X := X) (mem := mem) (d := n) 30 0 (setS gm 2 0) (gm.2 4) vS hT rfl m4 m2 m3 (by omega) (fun k hk => by omega) (fun k hk => by omega) (Or.inl rfl)
  have hfm := fun (M : AM) => T2_firstMisfit (X := X) (mem := M) (n := n) (t := t) (mi := mi) (la := la) hg hS h96 h15
  -- the reference's beginning
  have hr0 : ∀ M : AM, ev X m_X5_duchy 0 (vR 53 :: [vS, vS]) [] (mpt M gm n) = ev X m_X5_duchy 12 [vR 53, vI 1, vS] [] (mpt M (sa (setS gm 2 0) ((pl (g.2 1) S 0 : Nat) : Int) (gm.2 4)) n) := fun M => by
    simp only [eX5_duchy_0, eX5_duchy_1, eX5_duchy_2, eX5_duchy_5, eX5_duchy_6, eX5_duchy_7, eX5_duchy_10, eX5_duchy_11, evb_some, evm_some, evc_some, evc_none, gd, if_true, if_false, eq_self, and_self, and_true, true_and, ne_eq, not_false_eq_true, or_true, true_or, mg, mf0, mf1, mf2, mf3, mf4, mf5, mf6, mf7, mf8, mf9, mf10, mf11, mf12, mf13, mf14, mf15, mf16, mf17, mf18, mf19, mf20, mf21, mf22, mf23, mf24, mf25, mf26, mf27, ma54, ma55, ma56, ma57, ma58, ma59, ma60, ma61, ma62, ma63, ma64, ma65, ma66, ma67, ma68, ma69, ma70, ma71, Int.reduceEq, Int.reduceLT, Int.reduceLE, ↓reduceIte, mw11, mw12, mw13, mw18, mw19, mw20, mw22, mw23, mw24, mw27, mx54, mx55, mx56, mx57, mx58, mx59, mx60, mx61, mx62, mx63, mx64, mx65, mx66, mx67, mx68, mx69, mx70, mx71, sa_i, sa_cs2]
    rfl
  cases hp : (prS (g.2 1) S 30 0).1 with
  | some x =>
    rw [hp] at hsp
    -- the class
    have hc : ∀ M : AM, ev X m_X4_duchy 0 (vR 0 :: [vS, vS, vS, vS, vS]) [] (cpt M n t mi la g) = some (some (vI (w32 (-1000 - (x : Int)))), cpt M n t n la (setS g 1 0)) := fun M => by
      have h1 := hfm M
      rw [hp] at h1
      dsimp only at h1
      refine Eq.trans (b := ev X m_X4_duchy 26 [vR 0, vI (x : Int), vR 24, vI 0, vI 0, vS] [] (cpt M n t n la g)) ?_ ?_
      · simp only [eX4_duchy_0, eX4_duchy_1, eX4_duchy_4, eX4_duchy_7, eX4_duchy_8, eX4_duchy_9, eX4_duchy_12, eX4_duchy_13, eX4_duchy_16, eX4_duchy_17, eX4_duchy_20, eX4_duchy_21, eX4_duchy_22, eX4_duchy_23, eX4_duchy_24, evb_some, evm_some, evc_some, evc_none, gd, if_true, if_false, eq_self, and_self, and_true, true_and, ne_eq, not_false_eq_true, or_true, true_or, cf0_0, cf0_1, cf0_2, cf0_3, cf0_4, cf0_5, cf0_6, cf23_0, cf23_1, cf23_2, cf23_3, cf48_0, cf48_1, cf50_0, cf50_1, cg0, cg23, cg48, cg50, cg1, cg12, cg24, cg35, Int.reduceEq, Int.reduceLT, Int.reduceLE, ↓reduceIte, h1, T3_behind0 hW a3]
      · rw [eX4_duchy_26]
        by_cases q : (0 : Int) < (S : Int)
        · simp only [eX4_duchy_27, eX4_duchy_79, eX4_duchy_81, eX4_duchy_82, eX4_duchy_85, eX4_duchy_88, eX4_duchy_91, eX4_duchy_92, eX4_duchy_95, eX4_duchy_96, eX4_duchy_98, eX4_duchy_99, eX4_duchy_102, eX4_duchy_103, eX4_duchy_106, eX4_duchy_107, eX4_duchy_110, eX4_duchy_113, eX4_duchy_114, eX4_duchy_115, eX4_duchy_116, eX4_duchy_118, eX4_duchy_121, eX4_duchy_124, eX4_duchy_126, eX4_duchy_127, evb_some, evm_some, evc_some, evc_none, gd, if_true, if_false, eq_self, and_self, and_true, true_and, ne_eq, not_false_eq_true, or_true, true_or, cf0_0, cf0_1, cf0_2, cf0_3, cf0_4, cf0_5, cf0_6, cf23_0, cf23_1, cf23_2, cf23_3, cf48_0, cf48_1, cf50_0, cf50_1, cg0, cg23, cg48, cg50, cg1, cg12, cg24, cg35, Int.reduceEq, Int.reduceLT, Int.reduceLE, ↓reduceIte, cw0, cw48, cw50, cx46, cx47, cx49, cx51, cx52, hS, q, show ¬ (x : Int) < 0 by omega]
        · simp only [eX4_duchy_27, eX4_duchy_79, eX4_duchy_81, eX4_duchy_82, eX4_duchy_85, eX4_duchy_88, eX4_duchy_91, eX4_duchy_92, eX4_duchy_95, eX4_duchy_96, eX4_duchy_98, eX4_duchy_99, eX4_duchy_102, eX4_duchy_103, eX4_duchy_106, eX4_duchy_107, eX4_duchy_110, eX4_duchy_113, eX4_duchy_114, eX4_duchy_115, eX4_duchy_116, eX4_duchy_118, eX4_duchy_121, eX4_duchy_124, eX4_duchy_126, eX4_duchy_127, evb_some, evm_some, evc_some, evc_none, gd, if_true, if_false, eq_self, and_self, and_true, true_and, ne_eq, not_false_eq_true, or_true, true_or, cf0_0, cf0_1, cf0_2, cf0_3, cf0_4, cf0_5, cf0_6, cf23_0, cf23_1, cf23_2, cf23_3, cf48_0, cf48_1, cf50_0, cf50_1, cg0, cg23, cg48, cg50, cg1, cg12, cg24, cg35, Int.reduceEq, Int.reduceLT, Int.reduceLE, ↓reduceIte, cw0, cw48, cw50, cx46, cx47, cx49, cx51, cx52, hS, q, show ¬ (x : Int) < 0 by omega]
    have h2 := hpl (cpt mem n t n la (setS g 1 0))
    rw [hp] at h2
    obtain ⟨g', w', i1, i2, i3⟩ := h2
    refine ⟨vI (w32 (-1000 - (x : Int))), n, t, n, la, setS g 1 0, sa (setS g' 0 0) (x : Int) w', hc _, ?_, Rla_d h hW hL (QD_0 hm i1 i2)⟩
    refine (hr0 _).trans (i3.trans ?_)
    simp only [eX5_duchy_60, eX5_duchy_61, eX5_duchy_62, eX5_duchy_65, eX5_duchy_66, eX5_duchy_69, eX5_duchy_72, eX5_duchy_73, eX5_duchy_76, eX5_duchy_77, evb_some, evm_some, evc_some, evc_none, gd, if_true, if_false, eq_self, and_self, and_true, true_and, ne_eq, not_false_eq_true, or_true, true_or, mg, mf0, mf1, mf2, mf3, mf4, mf5, mf6, mf7, mf8, mf9, mf10, mf11, mf12, mf13, mf14, mf15, mf16, mf17, mf18, mf19, mf20, mf21, mf22, mf23, mf24, mf25, mf26, mf27, ma54, ma55, ma56, ma57, ma58, ma59, ma60, ma61, ma62, ma63, ma64, ma65, ma66, ma67, ma68, ma69, ma70, ma71, Int.reduceEq, Int.reduceLT, Int.reduceLE, ↓reduceIte, mw11, mw12, mw13, mw18, mw19, mw20, mw22, mw23, mw24, mw27, mx54, mx55, mx56, mx57, mx58, mx59, mx60, mx61, mx62, mx63, mx64, mx65, mx66, mx67, mx68, mx69, mx70, mx71, sa_cs0, sa_1]
  | none =>
    rw [hp] at hsp
    obtain ⟨n1, n2, n3, n4, n5⟩ := hsp
    obtain ⟨N, hN⟩ : ∃ N, N = (prS (g.2 1) S 30 0).2 := ⟨_, rfl⟩
    rw [← hN] at n1 n2 n3 n4 n5
    have hpS : ∀ k, k < N → pl (g.2 1) S k < S := fun k hk => mis_S (n3 k hk)
    -- the class, up to the loop
    have hc0 : ∀ M : AM, ev X m_X4_duchy 0 (vR 0 :: [vS, vS, vS, vS, vS]) [] (cpt M n t mi la g) = ev X m_X4_duchy 26 [vR 0, vI (-1), vR 24, vI ((0 : Nat) : Int), vI ((pl (g.2 1) S 0 : Nat) : Int), vS] [] (cpt M n t n la g) := fun M => by
      have h1 := hfm M
      rw [hp] at h1
      dsimp only at h1
      simp only [eX4_duchy_0, eX4_duchy_1, eX4_duchy_4, eX4_duchy_7, eX4_duchy_8, eX4_duchy_9, eX4_duchy_12, eX4_duchy_13, eX4_duchy_16, eX4_duchy_17, eX4_duchy_20, eX4_duchy_21, eX4_duchy_22, eX4_duchy_23, eX4_duchy_24, evb_some, evm_some, evc_some, evc_none, gd, if_true, if_false, eq_self, and_self, and_true, true_and, ne_eq, not_false_eq_true, or_true, true_or, cf0_0, cf0_1, cf0_2, cf0_3, cf0_4, cf0_5, cf0_6, cf23_0, cf23_1, cf23_2, cf23_3, cf48_0, cf48_1, cf50_0, cf50_1, cg0, cg23, cg48, cg50, cg1, cg12, cg24, cg35, Int.reduceEq, Int.reduceLT, Int.reduceLE, ↓reduceIte, h1, T3_behind0 hW a3]
      rfl
    have htl := fun (M : AM) => T4_tellLoop (X := X) (mem := M) (n := n) (t := t) (la := la) hg hS h96 h15 n2 n3 n5 N 0 n vS (by omega) hW
    have hd' := (htl mem).1
    -- the reference, up to its second loop
    have h2 := fun (M : AM) => hpl M
    have hG : ∀ M : AM, ∃ G, QD gm G ∧ G.1 2 = (N : Int) ∧ (∀ k, k < N → RK (g.2 1) S G (G.2 4) k) ∧ KB (G.2 5) 103 n ∧ ev X m_X5_duchy 0 (vR 53 :: [vS, vS]) [] (mpt M gm n) = ev X m_X5_duchy 86 [vR 53, vI 1, vI ((0 : Nat) : Int)] [] (mpt M G n) := fun M => by
      have h3 := hpl M
      rw [hp] at h3
      dsimp only at h3
      obtain ⟨g', w', i1, i2, i3, i4, i5⟩ := h3
      rw [← hN] at i3 i4 i5
      have hq0 := QD_0 (x := ((pl (g.2 1) S N : Nat) : Int)) hm i1 i2
      have hl5 : ((sa (setS g' 0 0) ((pl (g.2 1) S N : Nat) : Int) w').2 5).length = 309 := hq0.2.2.2.2.2.2.1
      have hk := T5_keep1 (X := X) (mem := M) (g := sa (setS g' 0 0) ((pl (g.2 1) S N : Nat) : Int) w') hL hl5
      have hgq := GQ_gC (d := n) hl5
      refine ⟨gC (sa (setS g' 0 0) ((pl (g.2 1) S N : Nat) : Int) w') n, QD_GQ hq0 hgq, ?_, fun k hk2 => ?_, KB_gC hl5, ?_⟩
      · rw [hgq.1 2 (by decide) (by decide)]
        exact i3
      · rw [hgq.2.1 4 (by decide)]
        unfold RK
        rw [hgq.2.1 2 (by decide), hgq.2.1 3 (by decide)]
        exact i4 k hk2
      · refine (hr0 _).trans (i5.trans ?_)
        simp only [eX5_duchy_60, eX5_duchy_61, eX5_duchy_62, eX5_duchy_65, eX5_duchy_66, eX5_duchy_69, eX5_duchy_72, eX5_duchy_73, eX5_duchy_76, eX5_duchy_77, eX5_duchy_78, eX5_duchy_79, eX5_duchy_80, eX5_duchy_81, eX5_duchy_84, eX5_duchy_85, evb_some, evm_some, evc_some, evc_none, gd, if_true, if_false, eq_self, and_self, and_true, true_and, ne_eq, not_false_eq_true, or_true, true_or, mg, mf0, mf1, mf2, mf3, mf4, mf5, mf6, mf7, mf8, mf9, mf10, mf11, mf12, mf13, mf14, mf15, mf16, mf17, mf18, mf19, mf20, mf21, mf22, mf23, mf24, mf25, mf26, mf27, ma54, ma55, ma56, ma57, ma58, ma59, ma60, ma61, ma62, ma63, ma64, ma65, ma66, ma67, ma68, ma69, ma70, ma71, Int.reduceEq, Int.reduceLT, Int.reduceLE, ↓reduceIte, mw11, mw12, mw13, mw18, mw19, mw20, mw22, mw23, mw24, mw27, mx54, mx55, mx56, mx57, mx58, mx59, mx60, mx61, mx62, mx63, mx64, mx65, mx66, mx67, mx68, mx69, mx70, mx71, sa_cs0, hk]
        rfl
    have hlo := fun (M G : _) (q : QD gm G) (q2 : G.1 2 = (N : Int)) (q3 : ∀ k, k < N → RK (g.2 1) S G (G.2 4) k) (q4 : KB (G.2 5) 103 n) => T5_comesLoop (X := X) (mem := M) (g := G) (d0 := n) hL n2 n3 q.2.2.2.1 q.2.2.2.2.1 q.2.2.2.2.2.1 q.2.2.2.2.2.2.1 q4 q2 q3 (fun k hk => by have := hpS k hk; omega) N 0 n (by omega) hW
    cases hap : (apL (g.2 1) S N 0 n).1 with
    | some j =>
      have hc : ∀ M : AM, ev X m_X4_duchy 0 (vR 0 :: [vS, vS, vS, vS, vS]) [] (cpt M n t mi la g) = some (some (vI (w32 (-2000 - ((pl (g.2 1) S j : Nat) : Int)))), cpt M n t (apL (g.2 1) S N 0 n).2 la (setS g 1 0)) := fun M => by
        have h1 := (htl M).2
        rw [hap] at h1
        obtain ⟨j1, j2⟩ := h1
        have hj := hpS j j1
        refine (hc0 M).trans (j2.trans ?_)
        simp only [eX4_duchy_79, eX4_duchy_81, eX4_duchy_82, eX4_duchy_85, eX4_duchy_88, eX4_duchy_91, eX4_duchy_92, eX4_duchy_95, eX4_duchy_96, eX4_duchy_98, eX4_duchy_99, eX4_duchy_102, eX4_duchy_103, eX4_duchy_106, eX4_duchy_107, eX4_duchy_110, eX4_duchy_113, eX4_duchy_114, eX4_duchy_115, eX4_duchy_116, eX4_duchy_118, eX4_duchy_121, eX4_duchy_124, eX4_duchy_126, eX4_duchy_127, evb_some, evm_some, evc_some, evc_none, gd, if_true, if_false, eq_self, and_self, and_true, true_and, ne_eq, not_false_eq_true, or_true, true_or, cf0_0, cf0_1, cf0_2, cf0_3, cf0_4, cf0_5, cf0_6, cf23_0, cf23_1, cf23_2, cf23_3, cf48_0, cf48_1, cf50_0, cf50_1, cg0, cg23, cg48, cg50, cg1, cg12, cg24, cg35, Int.reduceEq, Int.reduceLT, Int.reduceLE, ↓reduceIte, cw0, cw48, cw50, cx46, cx47, cx49, cx51, cx52, hS, show ((pl (g.2 1) S j : Nat) : Int) < (S : Int) by omega]
      obtain ⟨G, q1, q2, q3, q4, q5⟩ := hG (cpt mem n t (apL (g.2 1) S N 0 n).2 la (setS g 1 0))
      have hx := hlo (cpt mem n t (apL (g.2 1) S N 0 n).2 la (setS g 1 0)) G q1 q2 q3 q4
      rw [hap] at hx
      exact ⟨_, n, t, (apL (g.2 1) S N 0 n).2, la, setS g 1 0, gG G (G.2 5) 0 206, hc _, q5.trans hx, Rla_d h hW hd'.1 (QD_GQ q1 (GQ_gG q1.2.2.2.2.2.2.1 (fun _ _ => rfl)))⟩
    | none =>
      have hc : ∀ M : AM, ev X m_X4_duchy 0 (vR 0 :: [vS, vS, vS, vS, vS]) [] (cpt M n t mi la g) = some (some (vI (N : Int)), cpt M (apL (g.2 1) S N 0 n).2 t (apL (g.2 1) S N 0 n).2 la (setS g 1 0)) := fun M => by
        have h1 := (htl M).2
        rw [hap] at h1
        refine (hc0 M).trans (h1.trans ?_)
        simp only [eX4_duchy_79, eX4_duchy_81, eX4_duchy_82, eX4_duchy_85, eX4_duchy_88, eX4_duchy_91, eX4_duchy_92, eX4_duchy_95, eX4_duchy_96, eX4_duchy_98, eX4_duchy_99, eX4_duchy_102, eX4_duchy_103, eX4_duchy_106, eX4_duchy_107, eX4_duchy_110, eX4_duchy_113, eX4_duchy_114, eX4_duchy_115, eX4_duchy_116, eX4_duchy_118, eX4_duchy_121, eX4_duchy_124, eX4_duchy_126, eX4_duchy_127, eX4_duchy_128, eX4_duchy_129, eX4_duchy_132, eX4_duchy_133, eX4_duchy_136, eX4_duchy_137, evb_some, evm_some, evc_some, evc_none, gd, if_true, if_false, eq_self, and_self, and_true, true_and, ne_eq, not_false_eq_true, or_true, true_or, cf0_0, cf0_1, cf0_2, cf0_3, cf0_4, cf0_5, cf0_6, cf23_0, cf23_1, cf23_2, cf23_3, cf48_0, cf48_1, cf50_0, cf50_1, cg0, cg23, cg48, cg50, cg1, cg12, cg24, cg35, Int.reduceEq, Int.reduceLT, Int.reduceLE, ↓reduceIte, cw0, cw48, cw50, cx46, cx47, cx49, cx51, cx52, hS, show ¬ ((pl (g.2 1) S N : Nat) : Int) < (S : Int) by omega, b1_24 hL hd'.1]
      obtain ⟨G, q1, q2, q3, q4, q5⟩ := hG (cpt mem (apL (g.2 1) S N 0 n).2 t (apL (g.2 1) S N 0 n).2 la (setS g 1 0))
      have hx := hlo (cpt mem (apL (g.2 1) S N 0 n).2 t (apL (g.2 1) S N 0 n).2 la (setS g 1 0)) G q1 q2 q3 q4
      rw [hap] at hx
      exact ⟨_, (apL (g.2 1) S N 0 n).2, t, (apL (g.2 1) S N 0 n).2, la, setS g 1 0, G, hc _, q5.trans hx, Rla_d h hd' hd'.1 q1⟩
end D3
