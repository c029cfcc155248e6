/-! DUCHY, both ways -/
section DD
variable {X : List Int} {mem M : AM} {n t mi la g gm d : ST} {l L : List Int} {S : Nat}
/-- the statements come, one behind another: where it stops; what the duchy is -/
def apL (L : List Int) (S : Nat) : Nat → Nat → ST → Option Nat × ST
  | 0, _, d => (none, d)
  | m + 1, k, d => match tl L S (pl L S k) d with
    | none => (some k, d)
    | some d' => apL L S m (k + 1) d'
theorem prS_spec (L : List Int) (S : Nat) (h96 : S ≤ 96) : ∀ (f s : Nat), s + f = 30 → (∀ k, k < s → mis L S (pl L S k) = none) → (s = 0 ∨ pl L S s < S) → (match (prS L S f s).1 with
    | some x => ∃ s' i, s ≤ s' ∧ mis L S (pl L S s') = some i ∧ x = pl L S s' + i
    | none => s < (prS L S f s).2 ∧ (prS L S f s).2 ≤ 30 ∧ (∀ k, k < (prS L S f s).2 → mis L S (pl L S k) = none) ∧ (∀ k, s < k → k < (prS L S f s).2 → pl L S k < S) ∧ S ≤ pl L S (prS L S f s).2)
  | 0, s, hs, hg, hp => by
    have := pl_ge s hg
    omega
  | f + 1, s, hs, hg, hp => by
    unfold prS
    cases hms : mis L S (pl L S s) with
    | some i => exact ⟨s, i, Nat.le_refl _, hms, rfl⟩
    | none =>
      dsimp only
      have hg2 : ∀ k, k < s + 1 → mis L S (pl L S k) = none := fun k hk => by
        by_cases e : k = s
        · rw [e]; exact hms
        · exact hg k (by omega)
      by_cases q : pl L S (s + 1) < S
      · rw [if_pos q]
        have ih := prS_spec L S h96 f (s + 1) (by omega) hg2 (Or.inr q)
        cases hr : (prS L S f (s + 1)).1 with
        | some x =>
          rw [hr] at ih
          obtain ⟨s', i, h1, h2, h3⟩ := ih
          exact ⟨s', i, by omega, h2, h3⟩
        | none =>
          rw [hr] at ih
          obtain ⟨h1, h2, h3, h4, h5⟩ := ih
          refine ⟨by omega, h2, h3, fun k a b => ?_, h5⟩
          by_cases e : k = s + 1
          · rw [e]; exact q
          · exact h4 k (by omega) b
      · rw [if_neg q]
        exact ⟨Nat.lt_succ_self _, by dsimp only; omega, hg2, fun k a b => absurd b (by dsimp only; omega), Nat.le_of_not_lt q⟩
theorem mis_S {q : Nat} (h : mis L S q = none) : q < S := by
  refine Classical.byContradiction fun z => ?_
  have e : lt L S q = -1 := by
    unfold lt
    rw [if_neg z]
  have := fit_all h
  omega
/-- the class's loop -/
theorem T4_tellLoop (hg : GL g) (hS : g.1 1 = (S : Int)) (h96 : S ≤ 96) (hl : ∀ k : Nat, 0 ≤ (g.2 1).getD k 0 ∧ (g.2 1).getD k 0 ≤ 255) {N : Nat} (hN : N ≤ 30) (hgd : ∀ k, k < N → mis (g.2 1) S (pl (g.2 1) S k) = none) (hend : S ≤ pl (g.2 1) S N) : ∀ (m k : Nat) (d : ST) (z : AV), k + m = N → DW d → DW (apL (g.2 1) S m k d).2 ∧ (match (apL (g.2 1) S m k d).1 with
    | some j => j < N ∧ ev X m_X4_duchy 26 [vR 0, vI (-1), vR 24, vI (k : Int), vI ((pl (g.2 1) S k : Nat) : Int), z] [] (cpt mem n t d la g) = ev X m_X4_duchy 79 [vR 0, vI (-1), vR 24, vI (j : Int), vI ((pl (g.2 1) S j : Nat) : Int), z] [] (cpt mem n t (apL (g.2 1) S m k d).2 la g)
    | none => ev X m_X4_duchy 26 [vR 0, vI (-1), vR 24, vI (k : Int), vI ((pl (g.2 1) S k : Nat) : Int), z] [] (cpt mem n t d la g) = ev X m_X4_duchy 79 [vR 0, vI (-1), vR 24, vI (N : Int), vI ((pl (g.2 1) S N : Nat) : Int), z] [] (cpt mem n t (apL (g.2 1) S m k d).2 la g)) := by
  intro m
  induction m with
  | zero =>
    intro k d z hk hd
    refine ⟨hd, ?_⟩
    show ev X m_X4_duchy 26 _ _ _ = _
    rw [show k = N by omega, eX4_duchy_26]
    simp only [eX4_duchy_27, eX4_duchy_30, eX4_duchy_32, eX4_duchy_33, eX4_duchy_36, eX4_duchy_39, eX4_duchy_42, eX4_duchy_43, eX4_duchy_46, eX4_duchy_48, eX4_duchy_49, eX4_duchy_52, eX4_duchy_55, eX4_duchy_57, eX4_duchy_58, eX4_duchy_59, eX4_duchy_62, eX4_duchy_64, eX4_duchy_67, eX4_duchy_70, eX4_duchy_71, eX4_duchy_73, eX4_duchy_76, evb_some, evm_some, evc_some, evc_none, gd, if_true, if_false, eq_self, and_self, and_true, true_and, ne_eq, not_false_eq_true, or_true, true_or, cf0_0, cf0_1, cf0_2, cf0_3, cf0_4, cf0_5, cf0_6, cf23_0, cf23_1, cf23_2, cf23_3, cf48_0, cf48_1, cf50_0, cf50_1, cg0, cg23, cg48, cg50, cg1, cg12, cg24, cg35, Int.reduceEq, Int.reduceLT, Int.reduceLE, ↓reduceIte, hS, show ¬ ((pl (g.2 1) S N : Nat) : Int) < (S : Int) by omega]
    rfl
  | succ m ih =>
    intro k d z hk hd
    have hms := hgd k (by omega)
    have hlt := mis_S hms
    have htl := T2_tell (X := X) (mem := mem) (n := n) (t := t) (la := la) hd hg hS h96 hl (show pl (g.2 1) S k ≤ 96 by omega) hms
    unfold apL
    cases htt : tl (g.2 1) S (pl (g.2 1) S k) d with
    | none =>
      rw [htt] at htl
      refine ⟨hd, by omega, ?_⟩
      rw [eX4_duchy_26]
      simp only [eX4_duchy_27, eX4_duchy_30, eX4_duchy_32, eX4_duchy_33, eX4_duchy_36, eX4_duchy_39, eX4_duchy_42, eX4_duchy_43, eX4_duchy_46, eX4_duchy_48, eX4_duchy_49, eX4_duchy_52, eX4_duchy_55, eX4_duchy_57, eX4_duchy_58, eX4_duchy_59, eX4_duchy_62, eX4_duchy_64, eX4_duchy_67, eX4_duchy_70, eX4_duchy_71, eX4_duchy_73, eX4_duchy_76, evb_some, evm_some, evc_some, evc_none, gd, if_true, if_false, eq_self, and_self, and_true, true_and, ne_eq, not_false_eq_true, or_true, true_or, cf0_0, cf0_1, cf0_2, cf0_3, cf0_4, cf0_5, cf0_6, cf23_0, cf23_1, cf23_2, cf23_3, cf48_0, cf48_1, cf50_0, cf50_1, cg0, cg23, cg48, cg50, cg1, cg12, cg24, cg35, Int.reduceEq, Int.reduceLT, Int.reduceLE, ↓reduceIte, hS, show ((pl (g.2 1) S k : Nat) : Int) < (S : Int) by omega, htl]
      rfl
    | some d' =>
      rw [htt] at htl
      dsimp only [Option.getD] at htl
      have hd' := DW_tl hd hms htt
      obtain ⟨i1, i2⟩ := ih (k + 1) d' z (by omega) hd'
      refine ⟨i1, ?_⟩
      dsimp only
      have hlb := lnf_b (l := g.2 1) (S := S) (pl (g.2 1) S k)
      have e1 : (if (1 : Int) < ((ln (fo (lt (g.2 1) S (pl (g.2 1) S k))) : Nat) : Int) then ((ln (fo (lt (g.2 1) S (pl (g.2 1) S k))) : Nat) : Int) else 1) = ((lnf (g.2 1) S (pl (g.2 1) S k) : Nat) : Int) := mx1 hlb.1
      have e2 : w32 (((pl (g.2 1) S k : Nat) : Int) + ((lnf (g.2 1) S (pl (g.2 1) S k) : Nat) : Int)) = ((pl (g.2 1) S (k + 1) : Nat) : Int) := by
        rw [w32_id (by omega) (by omega)]
        show _ = ((pl (g.2 1) S k + lnf (g.2 1) S (pl (g.2 1) S k) : Nat) : Int)
        omega
      have hla := T2_lengthAt (X := X) (mem := mem) (n := n) (t := t) (mi := d') (la := la) (p := pl (g.2 1) S k) hg hS h96
      have hstep : ev X m_X4_duchy 26 [vR 0, vI (-1), vR 24, vI (k : Int), vI ((pl (g.2 1) S k : Nat) : Int), z] [] (cpt mem n t d la g) = ev X m_X4_duchy 26 [vR 0, vI (-1), vR 24, vI ((k + 1 : Nat) : Int), vI ((pl (g.2 1) S (k + 1) : Nat) : Int), z] [] (cpt mem n t d' la g) := by
        rw [eX4_duchy_26]
        simp only [eX4_duchy_27, eX4_duchy_30, eX4_duchy_32, eX4_duchy_33, eX4_duchy_36, eX4_duchy_39, eX4_duchy_42, eX4_duchy_43, eX4_duchy_46, eX4_duchy_48, eX4_duchy_49, eX4_duchy_52, eX4_duchy_55, eX4_duchy_57, eX4_duchy_58, eX4_duchy_59, eX4_duchy_62, eX4_duchy_64, eX4_duchy_67, eX4_duchy_70, eX4_duchy_71, eX4_duchy_73, eX4_duchy_76, evb_some, evm_some, evc_some, evc_none, gd, if_true, if_false, eq_self, and_self, and_true, true_and, ne_eq, not_false_eq_true, or_true, true_or, cf0_0, cf0_1, cf0_2, cf0_3, cf0_4, cf0_5, cf0_6, cf23_0, cf23_1, cf23_2, cf23_3, cf48_0, cf48_1, cf50_0, cf50_1, cg0, cg23, cg48, cg50, cg1, cg12, cg24, cg35, Int.reduceEq, Int.reduceLT, Int.reduceLE, ↓reduceIte, hS, show ((pl (g.2 1) S k : Nat) : Int) < (S : Int) by omega, htl, hla, e1, e2, w32_k1 (show k < 2147483647 by omega)]
      rw [hstep]
      exact i2
/-- a statement as the reference keeps it -/
def RK (L : List Int) (S : Nat) (g : ST) (w : List Int) (k : Nat) : Prop := (g.2 2).getD k 0 = lt L S (pl L S k) ∧ (g.2 3).getD k 0 = ((pl L S k : Nat) : Int) ∧ RQ L S w k (pl L S k)
def GC (g g' : ST) : Prop := (∀ k, k ≠ 1 → k ≠ 2 → g'.1 k = g.1 k) ∧ (∀ k, k ≠ 2 → k ≠ 3 → k ≠ 4 → g'.2 k = g.2 k) ∧ (g'.2 2).length = 48 ∧ (g'.2 3).length = 48
theorem RQ_keep {w w2 : List Int} {s k q : Nat} (h : RQ L S w k q) (hb : LB w w2 s) (hk : k < s) : RQ L S w2 k q := by
  unfold RQ at h ⊢
  rw [hb.2 (3 * k) (by omega), hb.2 (3 * k + 1) (by omega), hb.2 (3 * k + 2) (by omega)]
  exact h
theorem T5_parseLoop : ∀ (f s : Nat) (g : ST) (w : List Int) (z : AV), Tp g L S → g.1 2 = (s : Int) → w.length = 144 → (g.2 2).length = 48 → (g.2 3).length = 48 → s + f = 30 → (∀ k, k < s → mis L S (pl L S k) = none) → (∀ k, k < s → RK L S g w k) → (s = 0 ∨ pl L S s < S) → (match (prS L S f s).1 with
    | some x => ∃ g' w', GC g g' ∧ w'.length = 144 ∧ ev X m_X5_duchy 12 [vR 53, vI 1, z] [] (mpt mem (sa g ((pl L S s : Nat) : Int) w) d) = ev X m_X5_duchy 60 [vR 53, vI 0, z] [] (mpt mem (sa g' (x : Int) w') d)
    | none => ∃ g' w', GC g g' ∧ w'.length = 144 ∧ g'.1 2 = (((prS L S f s).2 : Nat) : Int) ∧ (∀ k, k < (prS L S f s).2 → RK L S g' w' k) ∧ ev X m_X5_duchy 12 [vR 53, vI 1, z] [] (mpt mem (sa g ((pl L S s : Nat) : Int) w) d) = ev X m_X5_duchy 60 [vR 53, vI 1, z] [] (mpt mem (sa g' ((pl L S (prS L S f s).2 : Nat) : Int) w') d)) := by
  intro f
  induction f with
  | zero =>
    intro s g w z hT hs hw h2 h3 hf hg hr hp
    have h1 := pl_ge s hg
    have h2 := hT.2.2.1
    omega
  | succ f ih =>
    intro s g w z hT hs hw h2 h3 hf hg hr hp
    have h96 := hT.2.2.1
    have hge := pl_ge s hg
    have hpb : pl L S s ≤ 96 := by
      rcases hp with rfl | hp
      · exact Nat.zero_le _
      · omega
    have hst := T5_statement (X := X) (mem := mem) (d := d) (q := pl L S s) (s := s) hT hs (by omega) hw h2 h3 hpb
    -- into the statement
    have hin : ∀ r : Option AV × AM, ev X m_X5_statement 0 [vR 53, vS] [] (mpt mem (sa g ((pl L S s : Nat) : Int) w) d) = some r → ev X m_X5_duchy 12 [vR 53, vI 1, z] [] (mpt mem (sa g ((pl L S s : Nat) : Int) w) d) = evc X (some r) m_X5_duchy 38 [vR 53, vI 1, z] [] := by
      intro r hr
      rw [eX5_duchy_12]
      by_cases q : pl L S s < S
      · simp only [eX5_duchy_13, eX5_duchy_16, eX5_duchy_17, eX5_duchy_20, eX5_duchy_21, eX5_duchy_24, eX5_duchy_27, eX5_duchy_28, eX5_duchy_31, eX5_duchy_34, eX5_duchy_35, evb_some, evm_some, evc_some, evc_none, gd, if_true, if_false, eq_self, and_self, and_true, true_and, ne_eq, not_false_eq_true, or_true, true_or, mg, mf0, mf1, mf2, mf3, mf4, mf5, mf6, mf7, mf8, mf9, mf10, mf11, mf12, mf13, mf14, mf15, mf16, mf17, mf18, mf19, mf20, mf21, mf22, mf23, mf24, mf25, mf26, mf27, ma54, ma55, ma56, ma57, ma58, ma59, ma60, ma61, ma62, ma63, ma64, ma65, ma66, ma67, ma68, ma69, ma70, ma71, Int.reduceEq, Int.reduceLT, Int.reduceLE, ↓reduceIte, sa_0, sa_1, hT.1, show ((pl L S s : Nat) : Int) < (S : Int) by omega, hr]
      · have s0 : s = 0 := by omega
        have hs0 : g.1 2 = 0 := by rw [hs, s0]; rfl
        simp only [eX5_duchy_13, eX5_duchy_16, eX5_duchy_17, eX5_duchy_20, eX5_duchy_21, eX5_duchy_24, eX5_duchy_27, eX5_duchy_28, eX5_duchy_31, eX5_duchy_34, eX5_duchy_35, evb_some, evm_some, evc_some, evc_none, gd, if_true, if_false, eq_self, and_self, and_true, true_and, ne_eq, not_false_eq_true, or_true, true_or, mg, mf0, mf1, mf2, mf3, mf4, mf5, mf6, mf7, mf8, mf9, mf10, mf11, mf12, mf13, mf14, mf15, mf16, mf17, mf18, mf19, mf20, mf21, mf22, mf23, mf24, mf25, mf26, mf27, ma54, ma55, ma56, ma57, ma58, ma59, ma60, ma61, ma62, ma63, ma64, ma65, ma66, ma67, ma68, ma69, ma70, ma71, Int.reduceEq, Int.reduceLT, Int.reduceLE, ↓reduceIte, sa_0, sa_1, sa_2, hT.1, show ¬ ((pl L S s : Nat) : Int) < (S : Int) by omega, hs0, hr]
    unfold prS
    cases hms : mis L S (pl L S s) with
    | some i =>
      rw [hms] at hst
      obtain ⟨g2, l2, b1, b2, b3⟩ := hst
      obtain ⟨c1, c2, c3, c4, c5⟩ := b1
      have hs2 : g2.1 2 = (s : Int) := by rw [c1]; exact hs
      have e0 : w32 ((s : Int) + 0) = (s : Int) := by rw [Int.add_zero]; exact w32_id (by omega) (by omega)
      have hsame : setS (sa g2 ((pl L S s + i : Nat) : Int) l2) 2 (s : Int) = sa g2 ((pl L S s + i : Nat) : Int) l2 := ST_ext (fun j => by
        rw [setS_1]
        split
        · rename_i e
          rw [e]; exact hs2.symm
        · rfl) (fun _ => rfl)
      refine ⟨g2, l2, ⟨fun k _ _ => by rw [c1], fun k a b _ => c2 k a b, c3, c4⟩, b2.1, ?_⟩
      rw [hin _ b3]
      simp only [eX5_duchy_38, eX5_duchy_39, eX5_duchy_40, eX5_duchy_40r, eX5_duchy_41, eX5_duchy_44, eX5_duchy_45, eX5_duchy_48, eX5_duchy_49, eX5_duchy_52, eX5_duchy_53, eX5_duchy_54, eX5_duchy_57, evb_some, evm_some, evc_some, evc_none, gd, if_true, if_false, eq_self, and_self, and_true, true_and, ne_eq, not_false_eq_true, or_true, true_or, mg, mf0, mf1, mf2, mf3, mf4, mf5, mf6, mf7, mf8, mf9, mf10, mf11, mf12, mf13, mf14, mf15, mf16, mf17, mf18, mf19, mf20, mf21, mf22, mf23, mf24, mf25, mf26, mf27, ma54, ma55, ma56, ma57, ma58, ma59, ma60, ma61, ma62, ma63, ma64, ma65, ma66, ma67, ma68, ma69, ma70, ma71, Int.reduceEq, Int.reduceLT, Int.reduceLE, ↓reduceIte, mw11, mw12, mw13, mw18, mw19, mw20, mw22, mw23, mw24, mw27, mx54, mx55, mx56, mx57, mx58, mx59, mx60, mx61, mx62, mx63, mx64, mx65, mx66, mx67, mx68, mx69, mx70, mx71, sa_2, hs2, e0, hsame]
      rw [eX5_duchy_12]
      simp only [eX5_duchy_13, evb_some, evm_some, evc_some, evc_none, gd, if_true, if_false, eq_self, and_self, and_true, true_and, ne_eq, not_false_eq_true, or_true, true_or, mg, mf0, mf1, mf2, mf3, mf4, mf5, mf6, mf7, mf8, mf9, mf10, mf11, mf12, mf13, mf14, mf15, mf16, mf17, mf18, mf19, mf20, mf21, mf22, mf23, mf24, mf25, mf26, mf27, ma54, ma55, ma56, ma57, ma58, ma59, ma60, ma61, ma62, ma63, ma64, ma65, ma66, ma67, ma68, ma69, ma70, ma71, Int.reduceEq, Int.reduceLT, Int.reduceLE, ↓reduceIte]
    | none =>
      rw [hms] at hst
      obtain ⟨g2, l2, b1, b2, b4, b5, b6, b3⟩ := hst
      obtain ⟨c1, c2, c3, c4, c5⟩ := b1
      have hs2 : g2.1 2 = (s : Int) := by rw [c1]; exact hs
      dsimp only
      have hg2 : ∀ k, k < s + 1 → mis L S (pl L S k) = none := fun k hk => by
        by_cases e : k = s
        · rw [e]; exact hms
        · exact hg k (by omega)
      have hT2 : Tp (setS g2 2 ((s + 1 : Nat) : Int)) L S := by
        obtain ⟨t1, t2, t3, t4, t5⟩ := hT
        refine ⟨?_, ?_, t3, t4, t5⟩
        · show g2.1 0 = _
          rw [c1]; exact t1
        · show g2.2 1 = _
          rw [c2 1 (by decide) (by decide)]; exact t2
      have hr2 : ∀ k, k < s + 1 → RK L S (setS g2 2 ((s + 1 : Nat) : Int)) l2 k := fun k hk => by
        by_cases e : k = s
        · rw [e]
          exact ⟨b4, b5, b6⟩
        · obtain ⟨y1, y2, y3⟩ := hr k (by omega)
          obtain ⟨x1, x2⟩ := c5 k e
          exact ⟨x1.trans y1, x2.trans y2, RQ_keep y3 b2 (by omega)⟩
      have hgc : GC g (setS g2 2 ((s + 1 : Nat) : Int)) := ⟨fun k a b => by rw [setS_1, if_neg b, c1], fun k a b _ => c2 k a b, c3, c4⟩
      have hback : ev X m_X5_duchy 12 [vR 53, vI 1, z] [] (mpt mem (sa g ((pl L S s : Nat) : Int) w) d) = ev X m_X5_duchy 12 [vR 53, vI 1, z] [] (mpt mem (sa (setS g2 2 ((s + 1 : Nat) : Int)) ((pl L S (s + 1) : Nat) : Int) l2) d) := by
        rw [hin _ b3]
        simp only [eX5_duchy_38, eX5_duchy_39, eX5_duchy_40, eX5_duchy_40r, eX5_duchy_41, eX5_duchy_44, eX5_duchy_45, eX5_duchy_48, eX5_duchy_49, eX5_duchy_52, eX5_duchy_53, eX5_duchy_54, eX5_duchy_57, evb_some, evm_some, evc_some, evc_none, gd, if_true, if_false, eq_self, and_self, and_true, true_and, ne_eq, not_false_eq_true, or_true, true_or, mg, mf0, mf1, mf2, mf3, mf4, mf5, mf6, mf7, mf8, mf9, mf10, mf11, mf12, mf13, mf14, mf15, mf16, mf17, mf18, mf19, mf20, mf21, mf22, mf23, mf24, mf25, mf26, mf27, ma54, ma55, ma56, ma57, ma58, ma59, ma60, ma61, ma62, ma63, ma64, ma65, ma66, ma67, ma68, ma69, ma70, ma71, Int.reduceEq, Int.reduceLT, Int.reduceLE, ↓reduceIte, mw11, mw12, mw13, mw18, mw19, mw20, mw22, mw23, mw24, mw27, mx54, mx55, mx56, mx57, mx58, mx59, mx60, mx61, mx62, mx63, mx64, mx65, mx66, mx67, mx68, mx69, mx70, mx71, sa_2, hs2, w32_k1 (show s < 2147483647 by omega), sa_cs2]
        rfl
      rw [hback]
      by_cases q : pl L S (s + 1) < S
      · rw [if_pos q]
        have ih2 := ih (s + 1) (setS g2 2 ((s + 1 : Nat) : Int)) l2 z hT2 rfl b2.1 c3 c4 (by omega) hg2 hr2 (Or.inr q)
        have gtr : ∀ g', GC (setS g2 2 ((s + 1 : Nat) : Int)) g' → GC g g' := fun g' hh => ⟨fun k a b => (hh.1 k a b).trans (hgc.1 k a b), fun k a b c => (hh.2.1 k a b c).trans (hgc.2.1 k a b c), hh.2.2.1, hh.2.2.2⟩
        cases hpr : (prS L S f (s + 1)).1 with
        | some x =>
          rw [hpr] at ih2
          obtain ⟨g', w', i1, i2, i3⟩ := ih2
          exact ⟨g', w', gtr g' i1, i2, i3⟩
        | none =>
          rw [hpr] at ih2
          obtain ⟨g', w', i1, i2, i3, i4, i5⟩ := ih2
          exact ⟨g', w', gtr g' i1, i2, i3, i4, i5⟩
      · rw [if_neg q]
        refine ⟨setS g2 2 ((s + 1 : Nat) : Int), l2, hgc, b2.1, rfl, hr2, ?_⟩
        rw [eX5_duchy_12]
        have hx : (setS g2 2 ((s + 1 : Nat) : Int)).1 2 = ((s + 1 : Nat) : Int) := rfl
        simp only [eX5_duchy_13, eX5_duchy_16, eX5_duchy_17, eX5_duchy_20, eX5_duchy_21, eX5_duchy_24, eX5_duchy_27, eX5_duchy_28, eX5_duchy_31, eX5_duchy_34, eX5_duchy_35, evb_some, evm_some, evc_some, evc_none, gd, if_true, if_false, eq_self, and_self, and_true, true_and, ne_eq, not_false_eq_true, or_true, true_or, mg, mf0, mf1, mf2, mf3, mf4, mf5, mf6, mf7, mf8, mf9, mf10, mf11, mf12, mf13, mf14, mf15, mf16, mf17, mf18, mf19, mf20, mf21, mf22, mf23, mf24, mf25, mf26, mf27, ma54, ma55, ma56, ma57, ma58, ma59, ma60, ma61, ma62, ma63, ma64, ma65, ma66, ma67, ma68, ma69, ma70, ma71, Int.reduceEq, Int.reduceLT, Int.reduceLE, ↓reduceIte, sa_0, sa_1, sa_2, hT2.1, hx, show ¬ ((pl L S (s + 1) : Nat) : Int) < (S : Int) by omega, show ¬ ((s + 1 : Nat) : Int) = 0 by omega]
/-- the reference's second loop -/
theorem T5_comesLoop {d0 : ST} (hd0 : DL d0) {N : Nat} (hN : N ≤ 30) (hgd : ∀ k, k < N → mis L S (pl L S k) = none) (h2 : (g.2 2).length = 48) (h3 : (g.2 3).length = 48) (h4 : (g.2 4).length = 144) (hl : (g.2 5).length = 309) (hK : KB (g.2 5) 103 d0) (h20 : g.1 2 = (N : Int)) (hr : ∀ k, k < N → RK L S g (g.2 4) k) (hpb : ∀ k, k < N → pl L S k < 96) : ∀ (m k : Nat) (d : ST), k + m = N → DW d → (match (apL L S m k d).1 with
    | some j => ev X m_X5_duchy 86 [vR 53, vI 1, vI (k : Int)] [] (mpt mem g d) = some (some (vI (w32 (-2000 - ((pl L S j : Nat) : Int)))), mpt mem (gG g (g.2 5) 0 206) d0)
    | none => ev X m_X5_duchy 86 [vR 53, vI 1, vI (k : Int)] [] (mpt mem g d) = some (some (vI (N : Int)), mpt mem g (apL L S m k d).2)) := by
  intro m
  induction m with
  | zero =>
    intro k d hk hd
    show ev X m_X5_duchy 86 _ _ _ = _
    rw [eX5_duchy_86]
    simp only [eX5_duchy_87, eX5_duchy_88, eX5_duchy_91, eX5_duchy_94, eX5_duchy_95, eX5_duchy_96, eX5_duchy_99, eX5_duchy_102, eX5_duchy_105, eX5_duchy_106, eX5_duchy_107, eX5_duchy_108, eX5_duchy_111, eX5_duchy_114, eX5_duchy_115, eX5_duchy_118, eX5_duchy_119, eX5_duchy_120, eX5_duchy_121, eX5_duchy_122, eX5_duchy_125, eX5_duchy_128, eX5_duchy_129, eX5_duchy_132, evb_some, evm_some, evc_some, evc_none, gd, if_true, if_false, eq_self, and_self, and_true, true_and, ne_eq, not_false_eq_true, or_true, true_or, mg, mf0, mf1, mf2, mf3, mf4, mf5, mf6, mf7, mf8, mf9, mf10, mf11, mf12, mf13, mf14, mf15, mf16, mf17, mf18, mf19, mf20, mf21, mf22, mf23, mf24, mf25, mf26, mf27, ma54, ma55, ma56, ma57, ma58, ma59, ma60, ma61, ma62, ma63, ma64, ma65, ma66, ma67, ma68, ma69, ma70, ma71, Int.reduceEq, Int.reduceLT, Int.reduceLE, ↓reduceIte, h20, show ¬ (k : Int) < (N : Int) by omega]
    rfl
  | succ m ih =>
    intro k d hk hd
    have c1 : (k : Int) < (N : Int) := by omega
    have k48 : k < 48 := by omega
    have hms := hgd k (by omega)
    obtain ⟨r1, r2, r3⟩ := hr k (by omega)
    have hco := T5_comes (X := X) (mem := mem) (g := g) hd k48 h2 h4 r1 r3 hms
    unfold apL
    cases htt : tl L S (pl L S k) d with
    | none =>
      rw [htt] at hco
      dsimp only [Option.getD] at hco
      have hb := T5_back1 (X := X) (mem := mem) (g := g) (d := d) (d0 := d0) hd.1 hd0 hl hK
      have hg3 : (gG g (g.2 5) 0 206).2 3 = g.2 3 := by
        unfold gG
        rw [setS_2, setS_2, setL_2, if_neg (by decide)]
      show ev X m_X5_duchy 86 _ _ _ = _
      rw [eX5_duchy_86]
      simp only [eX5_duchy_87, eX5_duchy_88, eX5_duchy_91, eX5_duchy_94, eX5_duchy_95, eX5_duchy_96, eX5_duchy_99, eX5_duchy_102, eX5_duchy_105, eX5_duchy_106, eX5_duchy_107, eX5_duchy_108, eX5_duchy_111, eX5_duchy_114, eX5_duchy_115, eX5_duchy_118, eX5_duchy_119, eX5_duchy_120, eX5_duchy_121, eX5_duchy_122, eX5_duchy_125, eX5_duchy_128, eX5_duchy_129, eX5_duchy_132, evb_some, evm_some, evc_some, evc_none, gd, if_true, if_false, eq_self, and_self, and_true, true_and, ne_eq, not_false_eq_true, or_true, true_or, mg, mf0, mf1, mf2, mf3, mf4, mf5, mf6, mf7, mf8, mf9, mf10, mf11, mf12, mf13, mf14, mf15, mf16, mf17, mf18, mf19, mf20, mf21, mf22, mf23, mf24, mf25, mf26, mf27, ma54, ma55, ma56, ma57, ma58, ma59, ma60, ma61, ma62, ma63, ma64, ma65, ma66, ma67, ma68, ma69, ma70, ma71, Int.reduceEq, Int.reduceLT, Int.reduceLE, ↓reduceIte, h20, c1, hco, hb, hg3, h3, k48, r2]
    | some d' =>
      rw [htt] at hco
      dsimp only [Option.getD] at hco
      have hd' := DW_tl hd hms htt
      have i2 := ih (k + 1) d' (by omega) hd'
      dsimp only
      have hstep : ev X m_X5_duchy 86 [vR 53, vI 1, vI (k : Int)] [] (mpt mem g d) = ev X m_X5_duchy 86 [vR 53, vI 1, vI ((k + 1 : Nat) : Int)] [] (mpt mem g d') := by
        rw [eX5_duchy_86]
        simp only [eX5_duchy_87, eX5_duchy_88, eX5_duchy_91, eX5_duchy_94, eX5_duchy_95, eX5_duchy_96, eX5_duchy_99, eX5_duchy_102, eX5_duchy_105, eX5_duchy_106, eX5_duchy_107, eX5_duchy_108, eX5_duchy_111, eX5_duchy_114, eX5_duchy_115, eX5_duchy_118, eX5_duchy_119, eX5_duchy_120, eX5_duchy_121, eX5_duchy_122, eX5_duchy_125, evb_some, evm_some, evc_some, evc_none, gd, if_true, if_false, eq_self, and_self, and_true, true_and, ne_eq, not_false_eq_true, or_true, true_or, mg, mf0, mf1, mf2, mf3, mf4, mf5, mf6, mf7, mf8, mf9, mf10, mf11, mf12, mf13, mf14, mf15, mf16, mf17, mf18, mf19, mf20, mf21, mf22, mf23, mf24, mf25, mf26, mf27, ma54, ma55, ma56, ma57, ma58, ma59, ma60, ma61, ma62, ma63, ma64, ma65, ma66, ma67, ma68, ma69, ma70, ma71, Int.reduceEq, Int.reduceLT, Int.reduceLE, ↓reduceIte, h20, c1, hco, w32_k1 (show k < 2147483647 by omega)]
      rw [hstep]
      exact i2
end DD
