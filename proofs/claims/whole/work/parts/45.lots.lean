/-! LOTS -/
section LO
variable {X : List Int} {mem : AM} {n t mi la g gm d : ST}
theorem and_nn (z : Int) : 0 ≤ and32 z 2147483647 := by
  unfold and32
  show 0 ≤ (Int32.ofInt z &&& Int32.ofInt 2147483647).toBitVec.toInt
  have h : (Int32.ofInt z &&& Int32.ofInt 2147483647).toBitVec.msb = false := by
    show ((Int32.ofInt z).toBitVec &&& (Int32.ofInt 2147483647).toBitVec).msb = false
    rw [BitVec.msb_and, show ((Int32.ofInt 2147483647).toBitVec).msb = false by decide, Bool.and_false]
  rw [BitVec.toInt_eq_toNat_of_msb h]
  exact Int.natCast_nonneg _
theorem and_lt (z y : Int) : and32 z y < 2147483648 := by
  unfold and32
  exact Int32.toInt_lt _
def sd (z : Int) : Int := w32 (w32 (z * 1664525) + 1013904223)
def rnd (z : Int) : Int := w32 ((w32 ((and32 z 2147483647).tdiv 256)).tmod 30)
theorem rnd_b (z : Int) : 0 ≤ rnd z ∧ rnd z ≤ 99 := by
  have h1 := and_nn z
  have h2 := and_lt z 2147483647
  unfold rnd
  rw [Int.tdiv_eq_ediv_of_nonneg h1, w32_id (n := and32 z 2147483647 / 256) (by omega) (by omega), Int.tmod_eq_emod_of_nonneg (by omega), w32_id (by omega) (by omega)]
  omega
def drF (P k : Nat) (s : Int × ST) : Int × ST := if k / 6 < P ∧ k % 6 < P ∧ k / 6 ≠ k % 6 then (sd s.1, setH s.2 (k / 6) (k % 6) (rnd (sd s.1))) else s
theorem drF_at {P i j : Nat} (hP : P ≤ 6) (hi : i < P) (hj : j < P) (hij : i ≠ j) (s : Int × ST) : drF P (6 * i + j) s = (sd s.1, setH s.2 i j (rnd (sd s.1))) := by
  unfold drF
  rw [show (6 * i + j) / 6 = i by omega, show (6 * i + j) % 6 = j by omega, if_pos ⟨hi, hj, hij⟩]
theorem drF_self {P i : Nat} (hi : i < 6) (s : Int × ST) : drF P (6 * i + i) s = s := by
  unfold drF
  rw [show (6 * i + i) / 6 = i by omega, show (6 * i + i) % 6 = i by omega, if_neg (fun z => z.2.2 rfl)]
theorem drF_ok {P k : Nat} (s : Int × ST) (h : DW s.2) (h0 : s.2.1 0 = (P : Int)) : DW (drF P k s).2 ∧ (drF P k s).2.1 = s.2.1 := by
  unfold drF
  split
  · rename_i q
    exact ⟨DW_setH h (by rw [h0]; omega) (by rw [h0]; omega) q.2.2 (rnd_b _), rfl⟩
  · exact ⟨h, rfl⟩
theorem dr_ok {P : Nat} (s : Int × ST) (h : DW s.2) (h0 : s.2.1 0 = (P : Int)) (m k : Nat) : DW (itr (drF P) m k s).2 ∧ (itr (drF P) m k s).2.1 = s.2.1 :=
  itr_inv (f := drF P) (fun _ e => DW e.2 ∧ e.2.1 = s.2.1) (k + m) (fun j e _ he => by
    have h1 := drF_ok (P := P) (k := j) e he.1 (by rw [he.2]; exact h0)
    exact ⟨h1.1, h1.2.trans he.2⟩) m k s rfl ⟨h, rfl⟩
theorem itr_add {σ : Type} {f : Nat → σ → σ} : ∀ (a b k : Nat) (s : σ), itr f (a + b) k s = itr f b (k + a) (itr f a k s)
  | 0, b, k, s => by rw [Nat.zero_add]; rfl
  | a + 1, b, k, s => by
    rw [show a + 1 + b = (a + b) + 1 by omega]
    show itr f (a + b) (k + 1) (f k s) = itr f b (k + (a + 1)) (itr f a (k + 1) (f k s))
    rw [itr_add a b (k + 1) (f k s), show k + 1 + a = k + (a + 1) by omega]
theorem itr_id {σ : Type} {f : Nat → σ → σ} : ∀ (m k : Nat) (s : σ), (∀ j, k ≤ j → j < k + m → ∀ s, f j s = s) → itr f m k s = s
  | 0, _, _, _ => rfl
  | m + 1, k, s, h => by
    show itr f m (k + 1) (f k s) = s
    rw [h k (by omega) (by omega), itr_id m (k + 1) s (fun j h1 h2 => h j (by omega) (by omega))]
theorem itr_cg {σ : Type} {f g : Nat → σ → σ} : ∀ (m k : Nat) (s : σ), (∀ j, k ≤ j → j < k + m → ∀ s, f j s = g j s) → itr f m k s = itr g m k s
  | 0, _, _, _ => rfl
  | m + 1, k, s, h => by
    show itr f m (k + 1) (f k s) = itr g m (k + 1) (g k s)
    rw [h k (by omega) (by omega), itr_cg m (k + 1) (g k s) (fun j h1 h2 => h j (by omega) (by omega))]
def rowF (P i : Nat) (s : Int × ST) : Int × ST := itr (drF P) P (6 * i) s
theorem row6 {P : Nat} (hP : P ≤ 6) (i : Nat) (s : Int × ST) : itr (drF P) 6 (6 * i) s = if i < P then rowF P i s else s := by
  by_cases q : i < P
  · rw [if_pos q]
    have h1 := itr_add (f := drF P) P (6 - P) (6 * i) s
    rw [show P + (6 - P) = 6 by omega] at h1
    rw [h1]
    refine itr_id _ _ _ fun j h2 h3 s => ?_
    unfold drF
    rw [if_neg (by omega)]
  · rw [if_neg q]
    refine itr_id _ _ _ fun j h2 h3 s => ?_
    unfold drF
    rw [if_neg (by omega)]
theorem rows {P : Nat} : ∀ (m i : Nat) (s : Int × ST), itr (drF P) (6 * m) (6 * i) s = itr (fun i s => itr (drF P) 6 (6 * i) s) m i s
  | 0, _, _ => rfl
  | m + 1, i, s => by
    rw [show 6 * (m + 1) = 6 + 6 * m by omega, itr_add 6 (6 * m), show 6 * i + 6 = 6 * (i + 1) by omega]
    exact rows m (i + 1) _
theorem rows_eq {P : Nat} (hP : P ≤ 6) (s : Int × ST) : itr (rowF P) P 0 s = itr (drF P) 36 0 s := by
  have h1 := rows (P := P) 6 0 s
  rw [show 6 * 6 = 36 by decide, show 6 * 0 = 0 by decide] at h1
  rw [h1]
  have h2 := itr_add (f := fun i s => itr (drF P) 6 (6 * i) s) P (6 - P) 0 s
  rw [show P + (6 - P) = 6 by omega] at h2
  rw [h2]
  rw [itr_id (f := fun i s => itr (drF P) 6 (6 * i) s) (6 - P) (0 + P) _ (fun j h3 h4 s => by rw [row6 hP, if_neg (by omega)])]
  exact itr_cg _ _ _ (fun j h3 h4 s => by rw [row6 hP, if_pos (by omega)])
theorem T3_drawHates {P : Nat} (z : Int) (h : DW d) (h0 : d.1 0 = (P : Int)) : ev X m_X3_drawHates 0 [vR 23, vI z, vS, vS, vS] [] (cpt mem n t d la g) = some (some (vI (itr (drF P) 36 0 (z, d)).1), cpt mem n t (itr (drF P) 36 0 (z, d)).2 la g) := by
  have hP : P ≤ 6 := by have := h.2.1.2; omega
  have inn : ∀ (i : Nat), i < P → ∀ (m j : Nat) (s : Int × ST), j + m = P → DW s.2 → s.2.1 0 = (P : Int) → ev X m_X3_drawHates 18 [vR 23, vI z, vI s.1, vI (i : Int), vI (j : Int)] [] (cpt mem n t s.2 la g) = ev X m_X3_drawHates 4 [vR 23, vI z, vI (itr (drF P) m (6 * i + j) s).1, vI ((i + 1 : Nat) : Int), vI (P : Int)] [] (cpt mem n t (itr (drF P) m (6 * i + j) s).2 la g) := by
    intro i hi m
    induction m with
    | zero =>
      intro j s hj hs hs0
      rw [eX3_drawHates_18, show j = P by omega]
      simp only [eX3_drawHates_20, eX3_drawHates_21, eX3_drawHates_24, eX3_drawHates_27, eX3_drawHates_30, eX3_drawHates_31, eX3_drawHates_33, eX3_drawHates_36, eX3_drawHates_37, eX3_drawHates_39, eX3_drawHates_40, eX3_drawHates_42, eX3_drawHates_43, eX3_drawHates_44, eX3_drawHates_45, eX3_drawHates_48, eX3_drawHates_49, eX3_drawHates_51, eX3_drawHates_52, eX3_drawHates_54, eX3_drawHates_55, eX3_drawHates_58, eX3_drawHates_59, eX3_drawHates_61, eX3_drawHates_62, eX3_drawHates_65, eX3_drawHates_65r, eX3_drawHates_66, eX3_drawHates_69, eX3_drawHates_72, eX3_drawHates_75, evb_some, evm_some, evc_some, evc_none, gd, if_true, if_false, eq_self, and_self, and_true, true_and, ne_eq, not_false_eq_true, or_true, true_or, cf0_0, cf0_1, cf0_2, cf0_3, cf0_4, cf0_5, cf0_6, cf23_0, cf23_1, cf23_2, cf23_3, cf48_0, cf48_1, cf50_0, cf50_1, cg0, cg23, cg48, cg50, cg1, cg12, cg24, cg35, Int.reduceEq, Int.reduceLT, Int.reduceLE, ↓reduceIte, q1_0, q1_1, q1_2, q1_3, q1_4, q1_5, q1_6, q1_7, q1_8, q1_9, q1_10, q1_11, q1_12, q12_0, q12_1, q12_2, q12_3, q12_4, q12_5, q12_6, q12_7, q12_8, q12_9, q12_10, q12_11, q12_12, q24_0, q24_1, q24_2, q24_3, q24_4, q24_5, q24_6, q24_7, q24_8, q24_9, q24_10, q24_11, q24_12, q35_0, q35_1, q35_2, q35_3, q35_4, q35_5, q35_6, q35_7, q35_8, q35_9, q35_10, q35_11, q35_12, hs0, show ¬ (P : Int) < (P : Int) by omega, itr, w32_k1 (show i < 2147483647 by omega)]
    | succ m ih =>
      intro j s hj hs hs0
      have c1 : (j : Int) < (P : Int) := by omega
      by_cases q : i = j
      · subst q
        have h2 := ih (i + 1) s (by omega) hs hs0
        rw [eX3_drawHates_18]
        simp only [eX3_drawHates_20, eX3_drawHates_21, eX3_drawHates_24, eX3_drawHates_27, eX3_drawHates_30, eX3_drawHates_31, eX3_drawHates_33, eX3_drawHates_36, eX3_drawHates_37, eX3_drawHates_39, eX3_drawHates_40, eX3_drawHates_42, eX3_drawHates_43, eX3_drawHates_44, eX3_drawHates_45, eX3_drawHates_48, eX3_drawHates_49, eX3_drawHates_51, eX3_drawHates_52, eX3_drawHates_54, eX3_drawHates_55, eX3_drawHates_58, eX3_drawHates_59, eX3_drawHates_61, eX3_drawHates_62, eX3_drawHates_65, eX3_drawHates_65r, eX3_drawHates_66, eX3_drawHates_69, evb_some, evm_some, evc_some, evc_none, gd, if_true, if_false, eq_self, and_self, and_true, true_and, ne_eq, not_false_eq_true, or_true, true_or, cf0_0, cf0_1, cf0_2, cf0_3, cf0_4, cf0_5, cf0_6, cf23_0, cf23_1, cf23_2, cf23_3, cf48_0, cf48_1, cf50_0, cf50_1, cg0, cg23, cg48, cg50, cg1, cg12, cg24, cg35, Int.reduceEq, Int.reduceLT, Int.reduceLE, ↓reduceIte, q1_0, q1_1, q1_2, q1_3, q1_4, q1_5, q1_6, q1_7, q1_8, q1_9, q1_10, q1_11, q1_12, q12_0, q12_1, q12_2, q12_3, q12_4, q12_5, q12_6, q12_7, q12_8, q12_9, q12_10, q12_11, q12_12, q24_0, q24_1, q24_2, q24_3, q24_4, q24_5, q24_6, q24_7, q24_8, q24_9, q24_10, q24_11, q24_12, q35_0, q35_1, q35_2, q35_3, q35_4, q35_5, q35_6, q35_7, q35_8, q35_9, q35_10, q35_11, q35_12, hs0, c1, itr, drF_self (show i < 6 by omega), w32_k1 (show i < 2147483647 by omega)]
        exact h2
      · have q2 : ¬ (i : Int) = (j : Int) := by omega
        have hk := drF_at (i := i) (j := j) hP hi (by omega) q s
        have ho := drF_ok (P := P) (k := 6 * i + j) s hs hs0
        have h2 := ih (j + 1) (drF P (6 * i + j) s) (by omega) ho.1 (by rw [ho.2]; exact hs0)
        rw [hk] at h2
        have hst := m_setHate (X := X) (mem := mem) (n := n) (t := t) (la := la) (g := g) (d := s.2) (i := i) (j := j) (v := rnd (sd s.1)) hs.1 hs.2.1.2 (by rw [hs0]; omega) (by rw [hs0]; omega) q
        unfold rnd sd at hst h2
        rw [eX3_drawHates_18]
        simp only [eX3_drawHates_20, eX3_drawHates_21, eX3_drawHates_24, eX3_drawHates_27, eX3_drawHates_30, eX3_drawHates_31, eX3_drawHates_33, eX3_drawHates_36, eX3_drawHates_37, eX3_drawHates_39, eX3_drawHates_40, eX3_drawHates_42, eX3_drawHates_43, eX3_drawHates_44, eX3_drawHates_45, eX3_drawHates_48, eX3_drawHates_49, eX3_drawHates_51, eX3_drawHates_52, eX3_drawHates_54, eX3_drawHates_55, eX3_drawHates_58, eX3_drawHates_59, eX3_drawHates_61, eX3_drawHates_62, eX3_drawHates_65, eX3_drawHates_65r, eX3_drawHates_66, eX3_drawHates_69, evb_some, evm_some, evc_some, evc_none, gd, if_true, if_false, eq_self, and_self, and_true, true_and, ne_eq, not_false_eq_true, or_true, true_or, cf0_0, cf0_1, cf0_2, cf0_3, cf0_4, cf0_5, cf0_6, cf23_0, cf23_1, cf23_2, cf23_3, cf48_0, cf48_1, cf50_0, cf50_1, cg0, cg23, cg48, cg50, cg1, cg12, cg24, cg35, Int.reduceEq, Int.reduceLT, Int.reduceLE, ↓reduceIte, q1_0, q1_1, q1_2, q1_3, q1_4, q1_5, q1_6, q1_7, q1_8, q1_9, q1_10, q1_11, q1_12, q12_0, q12_1, q12_2, q12_3, q12_4, q12_5, q12_6, q12_7, q12_8, q12_9, q12_10, q12_11, q12_12, q24_0, q24_1, q24_2, q24_3, q24_4, q24_5, q24_6, q24_7, q24_8, q24_9, q24_10, q24_11, q24_12, q35_0, q35_1, q35_2, q35_3, q35_4, q35_5, q35_6, q35_7, q35_8, q35_9, q35_10, q35_11, q35_12, hs0, c1, q2, if_neg z256, if_neg z30, hst, itr, hk, w32_k1 (show j < 2147483647 by omega)]
        unfold rnd sd
        exact h2
  have key : ∀ (m i : Nat) (s : Int × ST) (z2 : AV), i + m = P → DW s.2 → s.2.1 0 = (P : Int) → ev X m_X3_drawHates 4 [vR 23, vI z, vI s.1, vI (i : Int), z2] [] (cpt mem n t s.2 la g) = some (some (vI (itr (rowF P) m i s).1), cpt mem n t (itr (rowF P) m i s).2 la g) := by
    intro m
    induction m with
    | zero =>
      intro i s z2 hi hs hs0
      rw [eX3_drawHates_4]
      simp only [eX3_drawHates_5, eX3_drawHates_6, eX3_drawHates_9, eX3_drawHates_12, eX3_drawHates_15, eX3_drawHates_16, eX3_drawHates_78, eX3_drawHates_79, evb_some, evm_some, evc_some, evc_none, gd, if_true, if_false, eq_self, and_self, and_true, true_and, ne_eq, not_false_eq_true, or_true, true_or, cf0_0, cf0_1, cf0_2, cf0_3, cf0_4, cf0_5, cf0_6, cf23_0, cf23_1, cf23_2, cf23_3, cf48_0, cf48_1, cf50_0, cf50_1, cg0, cg23, cg48, cg50, cg1, cg12, cg24, cg35, Int.reduceEq, Int.reduceLT, Int.reduceLE, ↓reduceIte, q1_0, q1_1, q1_2, q1_3, q1_4, q1_5, q1_6, q1_7, q1_8, q1_9, q1_10, q1_11, q1_12, q12_0, q12_1, q12_2, q12_3, q12_4, q12_5, q12_6, q12_7, q12_8, q12_9, q12_10, q12_11, q12_12, q24_0, q24_1, q24_2, q24_3, q24_4, q24_5, q24_6, q24_7, q24_8, q24_9, q24_10, q24_11, q24_12, q35_0, q35_1, q35_2, q35_3, q35_4, q35_5, q35_6, q35_7, q35_8, q35_9, q35_10, q35_11, q35_12, hs0, show ¬ (i : Int) < (P : Int) by omega, itr]
    | succ m ih =>
      intro i s z2 hi hs hs0
      have ho := dr_ok (P := P) s hs hs0 P (6 * i)
      have h3 := inn i (by omega) P 0 s (by omega) hs hs0
      rw [Nat.add_zero] at h3
      rw [eX3_drawHates_4]
      simp only [eX3_drawHates_5, eX3_drawHates_6, eX3_drawHates_9, eX3_drawHates_12, eX3_drawHates_15, eX3_drawHates_16, evb_some, evm_some, evc_some, evc_none, gd, if_true, if_false, eq_self, and_self, and_true, true_and, ne_eq, not_false_eq_true, or_true, true_or, cf0_0, cf0_1, cf0_2, cf0_3, cf0_4, cf0_5, cf0_6, cf23_0, cf23_1, cf23_2, cf23_3, cf48_0, cf48_1, cf50_0, cf50_1, cg0, cg23, cg48, cg50, cg1, cg12, cg24, cg35, Int.reduceEq, Int.reduceLT, Int.reduceLE, ↓reduceIte, q1_0, q1_1, q1_2, q1_3, q1_4, q1_5, q1_6, q1_7, q1_8, q1_9, q1_10, q1_11, q1_12, q12_0, q12_1, q12_2, q12_3, q12_4, q12_5, q12_6, q12_7, q12_8, q12_9, q12_10, q12_11, q12_12, q24_0, q24_1, q24_2, q24_3, q24_4, q24_5, q24_6, q24_7, q24_8, q24_9, q24_10, q24_11, q24_12, q35_0, q35_1, q35_2, q35_3, q35_4, q35_5, q35_6, q35_7, q35_8, q35_9, q35_10, q35_11, q35_12, hs0, show (i : Int) < (P : Int) by omega]
      refine Eq.trans h3 ?_
      exact ih (i + 1) (itr (drF P) P (6 * i) s) _ (by omega) ho.1 (by rw [ho.2]; exact hs0)
  rw [← rows_eq hP]
  refine Eq.trans ?_ (key P 0 (z, d) vS (by omega) h h0)
  simp only [eX3_drawHates_0, eX3_drawHates_1, eX3_drawHates_2, eX3_drawHates_3]
  rfl
def loV (b : Int) (e : ST) : Int := if b = 0 then ((bro e : Nat) : Int) else sumH e
def loF (d : ST) (P : Nat) (b : Int) (_ : Nat) (s : Int × Int) : Int × Int := ((itr (drF P) 36 0 (s.1, d)).1, w32 (s.2 + loV b (pdays 15 (itr (drF P) 36 0 (s.1, d)).2)))
theorem T3_ofDrawn {P k : Nat} (z b : Int) (h : DW n) (hmi : DL mi) (h0 : n.1 0 = (P : Int)) (hk : k ≤ 20) : ∃ d', DL d' ∧ ev X m_X3_ofDrawnDuchies 0 [vR 23, vR 1, vI (k : Int), vI z, vI b, vS, vS, vS] [] (cpt mem n t mi la g) = some (some (vI (itr (loF n P b) k 0 (z, 0)).2), cpt mem n t d' la g) := by
  have key : ∀ (m i : Nat) (s : Int × Int) (e : ST), DL e → i + m = k → ∃ d', DL d' ∧ ev X m_X3_ofDrawnDuchies 9 [vR 23, vR 1, vI (k : Int), vI z, vI b, vI s.1, vI s.2, vI (i : Int)] [] (cpt mem n t e la g) = some (some (vI (itr (loF n P b) m i s).2), cpt mem n t d' la g) := by
    intro m
    induction m with
    | zero =>
      intro i s e he hi
      refine ⟨e, he, ?_⟩
      rw [eX3_ofDrawnDuchies_9]
      simp only [eX3_ofDrawnDuchies_0, eX3_ofDrawnDuchies_1, eX3_ofDrawnDuchies_3, eX3_ofDrawnDuchies_4, eX3_ofDrawnDuchies_6, eX3_ofDrawnDuchies_7, eX3_ofDrawnDuchies_11, eX3_ofDrawnDuchies_12, eX3_ofDrawnDuchies_15, eX3_ofDrawnDuchies_16, eX3_ofDrawnDuchies_19, eX3_ofDrawnDuchies_20, eX3_ofDrawnDuchies_23, eX3_ofDrawnDuchies_24, eX3_ofDrawnDuchies_26, eX3_ofDrawnDuchies_29, eX3_ofDrawnDuchies_31, eX3_ofDrawnDuchies_32, eX3_ofDrawnDuchies_35, eX3_ofDrawnDuchies_37, eX3_ofDrawnDuchies_40, eX3_ofDrawnDuchies_42, eX3_ofDrawnDuchies_44, eX3_ofDrawnDuchies_47, eX3_ofDrawnDuchies_48, eX3_ofDrawnDuchies_51, eX3_ofDrawnDuchies_54, eX3_ofDrawnDuchies_57, eX3_ofDrawnDuchies_58, eX3_ofDrawnDuchies_61, eX3_ofDrawnDuchies_64, eX3_ofDrawnDuchies_65, eX3_ofDrawnDuchies_67, eX3_ofDrawnDuchies_70, eX3_ofDrawnDuchies_73, eX3_ofDrawnDuchies_75, evb_some, evm_some, evc_some, evc_none, gd, if_true, if_false, eq_self, and_self, and_true, true_and, ne_eq, not_false_eq_true, or_true, true_or, cf0_0, cf0_1, cf0_2, cf0_3, cf0_4, cf0_5, cf0_6, cf23_0, cf23_1, cf23_2, cf23_3, cf48_0, cf48_1, cf50_0, cf50_1, cg0, cg23, cg48, cg50, cg1, cg12, cg24, cg35, Int.reduceEq, Int.reduceLT, Int.reduceLE, ↓reduceIte, show ¬ (i : Int) < (k : Int) by omega, itr]
    | succ m ih =>
      intro i s e he hi
      have ho := dr_ok (P := P) (s.1, n) h h0 36 0
      have hp := pdays_ok ho.1 15
      have hdr := T3_drawHates (X := X) (mem := mem) (n := n) (t := t) (la := la) (g := g) s.1 h h0
      have hpd : ev X m_X0_passDays 0 [vR 24, vI 15, vS] [] (cpt mem n t (itr (drF P) 36 0 (s.1, n)).2 la g) = some (none, cpt mem n t (pdays 15 (itr (drF P) 36 0 (s.1, n)).2) la g) := m_passDays (n := n) (k := 15) ho.1 (by decide)
      obtain ⟨d', h3, h4⟩ := ih (i + 1) (loF n P b i s) _ hp.1.1 (by omega)
      refine ⟨d', h3, ?_⟩
      rw [eX3_ofDrawnDuchies_9]
      show _ = some (some (vI (itr (loF n P b) m (i + 1) (loF n P b i s)).2), _)
      unfold loF loV at h4 ⊢
      by_cases q : b = 0
      · simp only [if_pos q] at h4 ⊢
        simp only [eX3_ofDrawnDuchies_0, eX3_ofDrawnDuchies_1, eX3_ofDrawnDuchies_3, eX3_ofDrawnDuchies_4, eX3_ofDrawnDuchies_6, eX3_ofDrawnDuchies_7, eX3_ofDrawnDuchies_11, eX3_ofDrawnDuchies_12, eX3_ofDrawnDuchies_15, eX3_ofDrawnDuchies_16, eX3_ofDrawnDuchies_19, eX3_ofDrawnDuchies_20, eX3_ofDrawnDuchies_23, eX3_ofDrawnDuchies_24, eX3_ofDrawnDuchies_26, eX3_ofDrawnDuchies_29, eX3_ofDrawnDuchies_31, eX3_ofDrawnDuchies_32, eX3_ofDrawnDuchies_35, eX3_ofDrawnDuchies_37, eX3_ofDrawnDuchies_40, eX3_ofDrawnDuchies_42, eX3_ofDrawnDuchies_44, eX3_ofDrawnDuchies_47, eX3_ofDrawnDuchies_48, eX3_ofDrawnDuchies_51, eX3_ofDrawnDuchies_54, eX3_ofDrawnDuchies_57, eX3_ofDrawnDuchies_58, eX3_ofDrawnDuchies_61, eX3_ofDrawnDuchies_64, eX3_ofDrawnDuchies_65, eX3_ofDrawnDuchies_67, eX3_ofDrawnDuchies_70, eX3_ofDrawnDuchies_73, eX3_ofDrawnDuchies_75, evb_some, evm_some, evc_some, evc_none, gd, if_true, if_false, eq_self, and_self, and_true, true_and, ne_eq, not_false_eq_true, or_true, true_or, cf0_0, cf0_1, cf0_2, cf0_3, cf0_4, cf0_5, cf0_6, cf23_0, cf23_1, cf23_2, cf23_3, cf48_0, cf48_1, cf50_0, cf50_1, cg0, cg23, cg48, cg50, cg1, cg12, cg24, cg35, Int.reduceEq, Int.reduceLT, Int.reduceLE, ↓reduceIte, show (i : Int) < (k : Int) by omega, b24_1 he h.1, hdr, hpd, m_brought hp.1.1 hp.1.2.2.1.2, if_pos q, w32_k1 (show i < 2147483647 by omega)]
        exact h4
      · simp only [if_neg q] at h4 ⊢
        simp only [eX3_ofDrawnDuchies_0, eX3_ofDrawnDuchies_1, eX3_ofDrawnDuchies_3, eX3_ofDrawnDuchies_4, eX3_ofDrawnDuchies_6, eX3_ofDrawnDuchies_7, eX3_ofDrawnDuchies_11, eX3_ofDrawnDuchies_12, eX3_ofDrawnDuchies_15, eX3_ofDrawnDuchies_16, eX3_ofDrawnDuchies_19, eX3_ofDrawnDuchies_20, eX3_ofDrawnDuchies_23, eX3_ofDrawnDuchies_24, eX3_ofDrawnDuchies_26, eX3_ofDrawnDuchies_29, eX3_ofDrawnDuchies_31, eX3_ofDrawnDuchies_32, eX3_ofDrawnDuchies_35, eX3_ofDrawnDuchies_37, eX3_ofDrawnDuchies_40, eX3_ofDrawnDuchies_42, eX3_ofDrawnDuchies_44, eX3_ofDrawnDuchies_47, eX3_ofDrawnDuchies_48, eX3_ofDrawnDuchies_51, eX3_ofDrawnDuchies_54, eX3_ofDrawnDuchies_57, eX3_ofDrawnDuchies_58, eX3_ofDrawnDuchies_61, eX3_ofDrawnDuchies_64, eX3_ofDrawnDuchies_65, eX3_ofDrawnDuchies_67, eX3_ofDrawnDuchies_70, eX3_ofDrawnDuchies_73, eX3_ofDrawnDuchies_75, evb_some, evm_some, evc_some, evc_none, gd, if_true, if_false, eq_self, and_self, and_true, true_and, ne_eq, not_false_eq_true, or_true, true_or, cf0_0, cf0_1, cf0_2, cf0_3, cf0_4, cf0_5, cf0_6, cf23_0, cf23_1, cf23_2, cf23_3, cf48_0, cf48_1, cf50_0, cf50_1, cg0, cg23, cg48, cg50, cg1, cg12, cg24, cg35, Int.reduceEq, Int.reduceLT, Int.reduceLE, ↓reduceIte, show (i : Int) < (k : Int) by omega, b24_1 he h.1, hdr, hpd, m_hatesTogether hp.1.1, if_neg q, w32_k1 (show i < 2147483647 by omega)]
        exact h4
  obtain ⟨d', h3, h4⟩ := key k 0 (z, 0) mi hmi (by omega)
  refine ⟨d', h3, Eq.trans ?_ h4⟩
  simp only [eX3_ofDrawnDuchies_0, eX3_ofDrawnDuchies_1, eX3_ofDrawnDuchies_3, eX3_ofDrawnDuchies_4, eX3_ofDrawnDuchies_6, eX3_ofDrawnDuchies_7]
  rfl
theorem tdiv_n (a b : Nat) : (a : Int).tdiv (b : Int) = ((a / b : Nat) : Int) := rfl
theorem k6 {k : Nat} (hk : k < 36) : w32 ((k : Int).tdiv 6) = ((k / 6 : Nat) : Int) ∧ w32 ((k : Int).tmod 6) = ((k % 6 : Nat) : Int) := by
  have h1 : (k : Int).tdiv 6 = ((k / 6 : Nat) : Int) := rfl
  have h2 : (k : Int).tmod 6 = ((k % 6 : Nat) : Int) := rfl
  rw [h1, h2]
  exact ⟨w32_id (by omega) (by omega), w32_id (by omega) (by omega)⟩
theorem T5_lots {P k : Nat} {w z : Int} (h : DW d) (hl : (g.2 5).length = 309) (h0 : d.1 0 = (P : Int)) (hk : 1 ≤ k ∧ k ≤ 20) (hw : 0 ≤ w ∧ w ≤ 1) : ∃ g', GQ g g' 206 ∧ ev X m_X5_lots 0 [vR 53, vI (k : Int), vI z, vI w, vS, vS, vS, vS, vS] [] (mpt mem g d) = some (some (vI (itr (loF d P w) k 0 (z, 0)).2), mpt mem g' d) := by
  have hP : P ≤ 6 := by have := h.2.1.2; omega
  have inn : ∀ (g : ST) (v : Int) (i : AV) (m q : Nat) (s : Int × ST), q + m = 36 → DW s.2 → s.2.1 0 = (P : Int) → ev X m_X5_lots 61 [vR 53, vI (k : Int), vI z, vI w, vI 0, vI s.1, vI v, i, vI (q : Int)] [] (mpt mem g s.2) = ev X m_X5_lots 126 [vR 53, vI (k : Int), vI z, vI w, vI 0, vI (itr (drF P) m q s).1, vI v, i, vI 36] [] (mpt mem g (itr (drF P) m q s).2) := by
    intro g v i m
    induction m with
    | zero =>
      intro q s hq hs hs0
      rw [eX5_lots_61, show (q : Int) = 36 by omega]
      simp only [eX5_lots_63, eX5_lots_65, eX5_lots_68, eX5_lots_69, eX5_lots_71, eX5_lots_73, eX5_lots_74, eX5_lots_76, eX5_lots_78, eX5_lots_79, eX5_lots_82, eX5_lots_85, eX5_lots_88, eX5_lots_90, eX5_lots_93, eX5_lots_94, eX5_lots_97, eX5_lots_98, eX5_lots_100, eX5_lots_101, eX5_lots_104, eX5_lots_106, eX5_lots_108, eX5_lots_111, eX5_lots_112, eX5_lots_115, eX5_lots_116, eX5_lots_118, eX5_lots_119, eX5_lots_120, eX5_lots_123, evb_some, evm_some, evc_some, evc_none, gd, if_true, if_false, eq_self, and_self, and_true, true_and, ne_eq, not_false_eq_true, or_true, true_or, mg, mf0, mf1, mf2, mf3, mf4, mf5, mf6, mf7, mf8, mf9, mf10, mf11, mf12, mf13, mf14, mf15, mf16, mf17, mf18, mf19, mf20, mf21, mf22, mf23, mf24, mf25, mf26, mf27, ma54, ma55, ma56, ma57, ma58, ma59, ma60, ma61, ma62, ma63, ma64, ma65, ma66, ma67, ma68, ma69, ma70, ma71, Int.reduceEq, Int.reduceLT, Int.reduceLE, ↓reduceIte, itr]
    | succ m ih =>
      intro q s hq hs hs0
      have c1 : (q : Int) < 36 := by omega
      have kk := k6 (show q < 36 by omega)
      have ho := drF_ok (P := P) (k := q) s hs hs0
      have h2 := ih (q + 1) (drF P q s) (by omega) ho.1 (by rw [ho.2]; exact hs0)
      have l5 : (s.2.2 5).length = 36 := hs.1.2.2.2.2.1
      rw [eX5_lots_61]
      by_cases c2 : q / 6 < P ∧ q % 6 < P ∧ q / 6 ≠ q % 6
      · have hdr : drF P q s = (sd s.1, setL s.2 5 ((s.2.2 5).set q (rnd (sd s.1)))) := by
          unfold drF setH
          rw [if_pos c2, show 6 * (q / 6) + q % 6 = q by omega]
        have c3 : 0 ≤ ((q / 6 : Nat) : Int) ∧ ((q / 6 : Nat) : Int) < s.2.1 0 ∧ 0 ≤ ((q % 6 : Nat) : Int) ∧ ((q % 6 : Nat) : Int) < s.2.1 0 ∧ ((q / 6 : Nat) : Int) ≠ ((q % 6 : Nat) : Int) := by rw [hs0]; omega
        rw [hdr] at h2
        unfold rnd sd at h2
        simp only [eX5_lots_63, eX5_lots_65, eX5_lots_68, eX5_lots_69, eX5_lots_71, eX5_lots_73, eX5_lots_74, eX5_lots_76, eX5_lots_78, eX5_lots_79, eX5_lots_82, eX5_lots_85, eX5_lots_88, eX5_lots_90, eX5_lots_93, eX5_lots_94, eX5_lots_97, eX5_lots_98, eX5_lots_100, eX5_lots_101, eX5_lots_104, eX5_lots_106, eX5_lots_108, eX5_lots_111, eX5_lots_112, eX5_lots_115, eX5_lots_116, eX5_lots_118, eX5_lots_119, eX5_lots_120, eX5_lots_123, evb_some, evm_some, evc_some, evc_none, gd, if_true, if_false, eq_self, and_self, and_true, true_and, ne_eq, not_false_eq_true, or_true, true_or, mg, mf0, mf1, mf2, mf3, mf4, mf5, mf6, mf7, mf8, mf9, mf10, mf11, mf12, mf13, mf14, mf15, mf16, mf17, mf18, mf19, mf20, mf21, mf22, mf23, mf24, mf25, mf26, mf27, ma54, ma55, ma56, ma57, ma58, ma59, ma60, ma61, ma62, ma63, ma64, ma65, ma66, ma67, ma68, ma69, ma70, ma71, Int.reduceEq, Int.reduceLT, Int.reduceLE, ↓reduceIte, mw11, mw12, mw13, mw18, mw19, mw20, mw22, mw23, mw24, mw27, mx54, mx55, mx56, mx57, mx58, mx59, mx60, mx61, mx62, mx63, mx64, mx65, mx66, mx67, mx68, mx69, mx70, mx71, c1, if_neg z6, kk.1, kk.2, T5_areTwoY c3, if_neg z256, if_neg z30, l5, show q < 36 by omega, itr, hdr, w32_k1 (show q < 2147483647 by omega)]
        unfold rnd sd
        exact h2
      · have hdr : drF P q s = s := by
          unfold drF
          rw [if_neg c2]
        have c3 : ¬ (0 ≤ ((q / 6 : Nat) : Int) ∧ ((q / 6 : Nat) : Int) < s.2.1 0 ∧ 0 ≤ ((q % 6 : Nat) : Int) ∧ ((q % 6 : Nat) : Int) < s.2.1 0 ∧ ((q / 6 : Nat) : Int) ≠ ((q % 6 : Nat) : Int)) := by
          rw [hs0]
          exact fun z => c2 ⟨by omega, by omega, fun y => z.2.2.2.2 (by rw [y])⟩
        rw [hdr] at h2
        simp only [eX5_lots_63, eX5_lots_65, eX5_lots_68, eX5_lots_69, eX5_lots_71, eX5_lots_73, eX5_lots_74, eX5_lots_76, eX5_lots_78, eX5_lots_79, eX5_lots_82, eX5_lots_85, eX5_lots_88, eX5_lots_90, eX5_lots_93, eX5_lots_94, eX5_lots_97, eX5_lots_98, eX5_lots_100, eX5_lots_101, eX5_lots_104, eX5_lots_106, eX5_lots_108, eX5_lots_111, eX5_lots_112, eX5_lots_115, eX5_lots_116, eX5_lots_118, eX5_lots_119, eX5_lots_120, eX5_lots_123, evb_some, evm_some, evc_some, evc_none, gd, if_true, if_false, eq_self, and_self, and_true, true_and, ne_eq, not_false_eq_true, or_true, true_or, mg, mf0, mf1, mf2, mf3, mf4, mf5, mf6, mf7, mf8, mf9, mf10, mf11, mf12, mf13, mf14, mf15, mf16, mf17, mf18, mf19, mf20, mf21, mf22, mf23, mf24, mf25, mf26, mf27, ma54, ma55, ma56, ma57, ma58, ma59, ma60, ma61, ma62, ma63, ma64, ma65, ma66, ma67, ma68, ma69, ma70, ma71, Int.reduceEq, Int.reduceLT, Int.reduceLE, ↓reduceIte, mw11, mw12, mw13, mw18, mw19, mw20, mw22, mw23, mw24, mw27, mx54, mx55, mx56, mx57, mx58, mx59, mx60, mx61, mx62, mx63, mx64, mx65, mx66, mx67, mx68, mx69, mx70, mx71, c1, if_neg z6, kk.1, kk.2, T5_areTwoN c3, itr, hdr, w32_k1 (show q < 2147483647 by omega)]
        exact h2
  have key : ∀ (m i : Nat) (s : Int × Int) (g : ST) (z8 : AV), (g.2 5).length = 309 → i + m = k → ∃ g', GQ g g' 206 ∧ ev X m_X5_lots 48 [vR 53, vI (k : Int), vI z, vI w, vI 0, vI s.1, vI s.2, vI (i : Int), z8] [] (mpt mem g d) = some (some (vI (itr (loF d P w) m i s).2), mpt mem g' d) := by
    intro m
    induction m with
    | zero =>
      intro i s g z8 hl hi
      refine ⟨g, GQ_rfl hl, ?_⟩
      rw [eX5_lots_48]
      simp only [eX5_lots_50, eX5_lots_51, eX5_lots_54, eX5_lots_55, eX5_lots_58, eX5_lots_59, eX5_lots_166, eX5_lots_168, evb_some, evm_some, evc_some, evc_none, gd, if_true, if_false, eq_self, and_self, and_true, true_and, ne_eq, not_false_eq_true, or_true, true_or, mg, mf0, mf1, mf2, mf3, mf4, mf5, mf6, mf7, mf8, mf9, mf10, mf11, mf12, mf13, mf14, mf15, mf16, mf17, mf18, mf19, mf20, mf21, mf22, mf23, mf24, mf25, mf26, mf27, ma54, ma55, ma56, ma57, ma58, ma59, ma60, ma61, ma62, ma63, ma64, ma65, ma66, ma67, ma68, ma69, ma70, ma71, Int.reduceEq, Int.reduceLT, Int.reduceLE, ↓reduceIte, show ¬ (i : Int) < (k : Int) by omega, itr]
    | succ m ih =>
      intro i s g z8 hl hi
      have ho := dr_ok (P := P) (s.1, d) h h0 36 0
      have hp := pdays_ok ho.1 15
      have hpd : ev X m_X5_goes 0 [vR 53, vI 15, vS] [] (mpt mem (gG g (kA (g.2 5) 206 d) 1 309) (itr (drF P) 36 0 (s.1, d)).2) = some (none, mpt mem (gG g (kA (g.2 5) 206 d) 1 309) (pdays 15 (itr (drF P) 36 0 (s.1, d)).2)) := T5_goes (n := 15) ho.1 (by decide)
      have hin := inn (gG g (kA (g.2 5) 206 d) 1 309) s.2 (vI (i : Int)) 36 0 (s.1, d) (by omega) h h0
      have hq := GQ_gTh (d := d) hl
      obtain ⟨g', h3, h4⟩ := ih (i + 1) (loF d P w i s) (gTh g d) (vI 36) hq.2.2.1 (by omega)
      refine ⟨g', GQ_trans hq h3, ?_⟩
      rw [eX5_lots_48]
      simp only [eX5_lots_50, eX5_lots_51, eX5_lots_54, eX5_lots_55, eX5_lots_58, eX5_lots_59, evb_some, evm_some, evc_some, evc_none, gd, if_true, if_false, eq_self, and_self, and_true, true_and, ne_eq, not_false_eq_true, or_true, true_or, mg, mf0, mf1, mf2, mf3, mf4, mf5, mf6, mf7, mf8, mf9, mf10, mf11, mf12, mf13, mf14, mf15, mf16, mf17, mf18, mf19, mf20, mf21, mf22, mf23, mf24, mf25, mf26, mf27, ma54, ma55, ma56, ma57, ma58, ma59, ma60, ma61, ma62, ma63, ma64, ma65, ma66, ma67, ma68, ma69, ma70, ma71, Int.reduceEq, Int.reduceLT, Int.reduceLE, ↓reduceIte, show (i : Int) < (k : Int) by omega, T5_thinks h.1 hl]
      refine Eq.trans hin ?_
      show _ = some (some (vI (itr (loF d P w) m (i + 1) (loF d P w i s)).2), _)
      unfold loF loV at h4 ⊢
      by_cases q : w = 0
      · simp only [if_pos q] at h4 ⊢
        simp only [eX5_lots_126, eX5_lots_127, eX5_lots_129, eX5_lots_132, eX5_lots_134, eX5_lots_135, eX5_lots_138, eX5_lots_139, eX5_lots_140, eX5_lots_143, eX5_lots_146, eX5_lots_149, eX5_lots_150, eX5_lots_153, eX5_lots_154, eX5_lots_156, eX5_lots_157, eX5_lots_160, eX5_lots_163, evb_some, evm_some, evc_some, evc_none, gd, if_true, if_false, eq_self, and_self, and_true, true_and, ne_eq, not_false_eq_true, or_true, true_or, mg, mf0, mf1, mf2, mf3, mf4, mf5, mf6, mf7, mf8, mf9, mf10, mf11, mf12, mf13, mf14, mf15, mf16, mf17, mf18, mf19, mf20, mf21, mf22, mf23, mf24, mf25, mf26, mf27, ma54, ma55, ma56, ma57, ma58, ma59, ma60, ma61, ma62, ma63, ma64, ma65, ma66, ma67, ma68, ma69, ma70, ma71, Int.reduceEq, Int.reduceLT, Int.reduceLE, ↓reduceIte, hpd, if_pos q, T5_thoseIn hp.1.1 hp.1.2.2.1.2, T5_bits, bitv_thS hp.1, T5_forgets hp.1.1 h.1 hl, w32_k1 (show i < 2147483647 by omega)]
        exact h4
      · simp only [if_neg q] at h4 ⊢
        simp only [eX5_lots_126, eX5_lots_127, eX5_lots_129, eX5_lots_132, eX5_lots_134, eX5_lots_135, eX5_lots_138, eX5_lots_139, eX5_lots_140, eX5_lots_143, eX5_lots_146, eX5_lots_149, eX5_lots_150, eX5_lots_153, eX5_lots_154, eX5_lots_156, eX5_lots_157, eX5_lots_160, eX5_lots_163, evb_some, evm_some, evc_some, evc_none, gd, if_true, if_false, eq_self, and_self, and_true, true_and, ne_eq, not_false_eq_true, or_true, true_or, mg, mf0, mf1, mf2, mf3, mf4, mf5, mf6, mf7, mf8, mf9, mf10, mf11, mf12, mf13, mf14, mf15, mf16, mf17, mf18, mf19, mf20, mf21, mf22, mf23, mf24, mf25, mf26, mf27, ma54, ma55, ma56, ma57, ma58, ma59, ma60, ma61, ma62, ma63, ma64, ma65, ma66, ma67, ma68, ma69, ma70, ma71, Int.reduceEq, Int.reduceLT, Int.reduceLE, ↓reduceIte, hpd, if_neg q, T5_allHate hp.1.1, T5_forgets hp.1.1 h.1 hl, w32_k1 (show i < 2147483647 by omega)]
        exact h4
  obtain ⟨g', h3, h4⟩ := key k 0 (z, 0) g vS hl (by omega)
  refine ⟨g', h3, Eq.trans ?_ h4⟩
  simp only [eX5_lots_0, eX5_lots_1, eX5_lots_2, eX5_lots_4, eX5_lots_7, eX5_lots_9, eX5_lots_11, eX5_lots_14, eX5_lots_15, eX5_lots_16, eX5_lots_17, eX5_lots_20, eX5_lots_23, eX5_lots_25, eX5_lots_27, eX5_lots_29, eX5_lots_32, eX5_lots_33, eX5_lots_35, eX5_lots_38, eX5_lots_39, eX5_lots_40, eX5_lots_42, eX5_lots_43, eX5_lots_45, eX5_lots_46, evb_some, evm_some, evc_some, evc_none, gd, if_true, if_false, eq_self, and_self, and_true, true_and, ne_eq, not_false_eq_true, or_true, true_or, mg, mf0, mf1, mf2, mf3, mf4, mf5, mf6, mf7, mf8, mf9, mf10, mf11, mf12, mf13, mf14, mf15, mf16, mf17, mf18, mf19, mf20, mf21, mf22, mf23, mf24, mf25, mf26, mf27, ma54, ma55, ma56, ma57, ma58, ma59, ma60, ma61, ma62, ma63, ma64, ma65, ma66, ma67, ma68, ma69, ma70, ma71, Int.reduceEq, Int.reduceLT, Int.reduceLE, ↓reduceIte, T5_bound, show ¬ (k : Int) < 1 by omega, show ¬ (20 : Int) < (k : Int) by omega, T5_isIn, hw]
  rfl
theorem B_lots (h : Rla n t mi la g gm) (k z w : Int) : Bth X m_X4_lots [vI k, vI z, vI w] m_X5_lots [vI k, vI z, vI w, vS, vS, vS, vS, vS] mem n t mi la g gm := by
  have hW := h.1; have hL := hW.1; have h6 := hW.2.1.2; have h8 := hW.2.2.1.2; have hg := Rla_g h; have hm := Rla_m h; obtain ⟨l1, l2, l3, l4, l5, l6, l7, l8, l9, l10⟩ := id hL
  have hk := Rla_k h
  by_cases c1 : k < 1
  · exact Bth_no4 h (fun M => by simp only [eX4_lots_0, eX4_lots_1, eX4_lots_2, eX4_lots_5, eX4_lots_6, eX4_lots_8, eX4_lots_11, eX4_lots_12, eX4_lots_13, eX4_lots_15, eX4_lots_18, eX4_lots_19, eX4_lots_21, eX4_lots_24, eX4_lots_25, eX4_lots_26, eX4_lots_29, eX4_lots_30, eX4_lots_31, eX4_lots_34, eX4_lots_35, eX4_lots_37, eX4_lots_40, eX4_lots_41, eX4_lots_42, eX4_lots_45, eX4_lots_46, eX4_lots_49, eX4_lots_50, eX4_lots_51, eX4_lots_52, eX4_lots_53, eX4_lots_56, eX4_lots_57, eX4_lots_60, eX4_lots_61, eX4_lots_64, evb_some, evm_some, evc_some, evc_none, gd, if_true, if_false, eq_self, and_self, and_true, true_and, ne_eq, not_false_eq_true, or_true, true_or, cf0_0, cf0_1, cf0_2, cf0_3, cf0_4, cf0_5, cf0_6, cf23_0, cf23_1, cf23_2, cf23_3, cf48_0, cf48_1, cf50_0, cf50_1, cg0, cg23, cg48, cg50, cg1, cg12, cg24, cg35, Int.reduceEq, Int.reduceLT, Int.reduceLE, ↓reduceIte, T4_no4 hg, c1]) (fun M => by simp only [eX5_lots_0, eX5_lots_1, eX5_lots_2, eX5_lots_4, eX5_lots_7, eX5_lots_9, eX5_lots_11, eX5_lots_14, eX5_lots_15, eX5_lots_16, eX5_lots_17, eX5_lots_20, eX5_lots_23, eX5_lots_25, eX5_lots_27, eX5_lots_29, eX5_lots_32, eX5_lots_33, eX5_lots_35, eX5_lots_38, evb_some, evm_some, evc_some, evc_none, gd, if_true, if_false, eq_self, and_self, and_true, true_and, ne_eq, not_false_eq_true, or_true, true_or, mg, mf0, mf1, mf2, mf3, mf4, mf5, mf6, mf7, mf8, mf9, mf10, mf11, mf12, mf13, mf14, mf15, mf16, mf17, mf18, mf19, mf20, mf21, mf22, mf23, mf24, mf25, mf26, mf27, ma54, ma55, ma56, ma57, ma58, ma59, ma60, ma61, ma62, ma63, ma64, ma65, ma66, ma67, ma68, ma69, ma70, ma71, Int.reduceEq, Int.reduceLT, Int.reduceLE, ↓reduceIte, T5_bound, c1, T5_no4 hm])
  by_cases c2 : 20 < k
  · exact Bth_no6 h (fun M => by simp only [eX4_lots_0, eX4_lots_1, eX4_lots_2, eX4_lots_5, eX4_lots_6, eX4_lots_8, eX4_lots_11, eX4_lots_12, eX4_lots_13, eX4_lots_15, eX4_lots_18, eX4_lots_19, eX4_lots_21, eX4_lots_24, eX4_lots_25, eX4_lots_26, eX4_lots_29, eX4_lots_30, eX4_lots_31, eX4_lots_34, eX4_lots_35, eX4_lots_37, eX4_lots_40, eX4_lots_41, eX4_lots_42, eX4_lots_45, eX4_lots_46, eX4_lots_49, eX4_lots_50, eX4_lots_51, eX4_lots_52, eX4_lots_53, eX4_lots_56, eX4_lots_57, eX4_lots_60, eX4_lots_61, eX4_lots_64, evb_some, evm_some, evc_some, evc_none, gd, if_true, if_false, eq_self, and_self, and_true, true_and, ne_eq, not_false_eq_true, or_true, true_or, cf0_0, cf0_1, cf0_2, cf0_3, cf0_4, cf0_5, cf0_6, cf23_0, cf23_1, cf23_2, cf23_3, cf48_0, cf48_1, cf50_0, cf50_1, cg0, cg23, cg48, cg50, cg1, cg12, cg24, cg35, Int.reduceEq, Int.reduceLT, Int.reduceLE, ↓reduceIte, T4_no6 hg, c1, c2]) (fun M => by simp only [eX5_lots_0, eX5_lots_1, eX5_lots_2, eX5_lots_4, eX5_lots_7, eX5_lots_9, eX5_lots_11, eX5_lots_14, eX5_lots_15, eX5_lots_16, eX5_lots_17, eX5_lots_20, eX5_lots_23, eX5_lots_25, eX5_lots_27, eX5_lots_29, eX5_lots_32, eX5_lots_33, eX5_lots_35, eX5_lots_38, evb_some, evm_some, evc_some, evc_none, gd, if_true, if_false, eq_self, and_self, and_true, true_and, ne_eq, not_false_eq_true, or_true, true_or, mg, mf0, mf1, mf2, mf3, mf4, mf5, mf6, mf7, mf8, mf9, mf10, mf11, mf12, mf13, mf14, mf15, mf16, mf17, mf18, mf19, mf20, mf21, mf22, mf23, mf24, mf25, mf26, mf27, ma54, ma55, ma56, ma57, ma58, ma59, ma60, ma61, ma62, ma63, ma64, ma65, ma66, ma67, ma68, ma69, ma70, ma71, Int.reduceEq, Int.reduceLT, Int.reduceLE, ↓reduceIte, T5_bound, c1, c2, T5_no6 hm])
  by_cases c3 : w < 0
  · exact Bth_no2 h (fun M => by simp only [eX4_lots_0, eX4_lots_1, eX4_lots_2, eX4_lots_5, eX4_lots_6, eX4_lots_8, eX4_lots_11, eX4_lots_12, eX4_lots_13, eX4_lots_15, eX4_lots_18, eX4_lots_19, eX4_lots_21, eX4_lots_24, eX4_lots_25, eX4_lots_26, eX4_lots_29, eX4_lots_30, eX4_lots_31, eX4_lots_34, eX4_lots_35, eX4_lots_37, eX4_lots_40, eX4_lots_41, eX4_lots_42, eX4_lots_45, eX4_lots_46, eX4_lots_49, eX4_lots_50, eX4_lots_51, eX4_lots_52, eX4_lots_53, eX4_lots_56, eX4_lots_57, eX4_lots_60, eX4_lots_61, eX4_lots_64, evb_some, evm_some, evc_some, evc_none, gd, if_true, if_false, eq_self, and_self, and_true, true_and, ne_eq, not_false_eq_true, or_true, true_or, cf0_0, cf0_1, cf0_2, cf0_3, cf0_4, cf0_5, cf0_6, cf23_0, cf23_1, cf23_2, cf23_3, cf48_0, cf48_1, cf50_0, cf50_1, cg0, cg23, cg48, cg50, cg1, cg12, cg24, cg35, Int.reduceEq, Int.reduceLT, Int.reduceLE, ↓reduceIte, T4_no2 hg, c1, c2, c3]) (fun M => by simp only [eX5_lots_0, eX5_lots_1, eX5_lots_2, eX5_lots_4, eX5_lots_7, eX5_lots_9, eX5_lots_11, eX5_lots_14, eX5_lots_15, eX5_lots_16, eX5_lots_17, eX5_lots_20, eX5_lots_23, eX5_lots_25, eX5_lots_27, eX5_lots_29, eX5_lots_32, eX5_lots_33, eX5_lots_35, eX5_lots_38, evb_some, evm_some, evc_some, evc_none, gd, if_true, if_false, eq_self, and_self, and_true, true_and, ne_eq, not_false_eq_true, or_true, true_or, mg, mf0, mf1, mf2, mf3, mf4, mf5, mf6, mf7, mf8, mf9, mf10, mf11, mf12, mf13, mf14, mf15, mf16, mf17, mf18, mf19, mf20, mf21, mf22, mf23, mf24, mf25, mf26, mf27, ma54, ma55, ma56, ma57, ma58, ma59, ma60, ma61, ma62, ma63, ma64, ma65, ma66, ma67, ma68, ma69, ma70, ma71, Int.reduceEq, Int.reduceLT, Int.reduceLE, ↓reduceIte, T5_bound, c1, c2, T5_isIn, show ¬ (0 ≤ w ∧ w ≤ 1) by omega, T5_no2 hm])
  by_cases c4 : 1 < w
  · exact Bth_no2 h (fun M => by simp only [eX4_lots_0, eX4_lots_1, eX4_lots_2, eX4_lots_5, eX4_lots_6, eX4_lots_8, eX4_lots_11, eX4_lots_12, eX4_lots_13, eX4_lots_15, eX4_lots_18, eX4_lots_19, eX4_lots_21, eX4_lots_24, eX4_lots_25, eX4_lots_26, eX4_lots_29, eX4_lots_30, eX4_lots_31, eX4_lots_34, eX4_lots_35, eX4_lots_37, eX4_lots_40, eX4_lots_41, eX4_lots_42, eX4_lots_45, eX4_lots_46, eX4_lots_49, eX4_lots_50, eX4_lots_51, eX4_lots_52, eX4_lots_53, eX4_lots_56, eX4_lots_57, eX4_lots_60, eX4_lots_61, eX4_lots_64, evb_some, evm_some, evc_some, evc_none, gd, if_true, if_false, eq_self, and_self, and_true, true_and, ne_eq, not_false_eq_true, or_true, true_or, cf0_0, cf0_1, cf0_2, cf0_3, cf0_4, cf0_5, cf0_6, cf23_0, cf23_1, cf23_2, cf23_3, cf48_0, cf48_1, cf50_0, cf50_1, cg0, cg23, cg48, cg50, cg1, cg12, cg24, cg35, Int.reduceEq, Int.reduceLT, Int.reduceLE, ↓reduceIte, T4_no2 hg, c1, c2, c3, c4]) (fun M => by simp only [eX5_lots_0, eX5_lots_1, eX5_lots_2, eX5_lots_4, eX5_lots_7, eX5_lots_9, eX5_lots_11, eX5_lots_14, eX5_lots_15, eX5_lots_16, eX5_lots_17, eX5_lots_20, eX5_lots_23, eX5_lots_25, eX5_lots_27, eX5_lots_29, eX5_lots_32, eX5_lots_33, eX5_lots_35, eX5_lots_38, evb_some, evm_some, evc_some, evc_none, gd, if_true, if_false, eq_self, and_self, and_true, true_and, ne_eq, not_false_eq_true, or_true, true_or, mg, mf0, mf1, mf2, mf3, mf4, mf5, mf6, mf7, mf8, mf9, mf10, mf11, mf12, mf13, mf14, mf15, mf16, mf17, mf18, mf19, mf20, mf21, mf22, mf23, mf24, mf25, mf26, mf27, ma54, ma55, ma56, ma57, ma58, ma59, ma60, ma61, ma62, ma63, ma64, ma65, ma66, ma67, ma68, ma69, ma70, ma71, Int.reduceEq, Int.reduceLT, Int.reduceLE, ↓reduceIte, T5_bound, c1, c2, T5_isIn, show ¬ (0 ≤ w ∧ w ≤ 1) by omega, T5_no2 hm])
  obtain ⟨e, rfl⟩ := n2i (show 0 ≤ k by omega)
  obtain ⟨P, hP⟩ := n2i hW.2.1.1
  refine Bth_y (r := vI (itr (loF n P w) e 0 (z, 0)).2) h (fun M => ?_) (fun M => ?_)
  · have q : w = 0 ∨ w = 1 := by omega
    rcases q with rfl | rfl
    · obtain ⟨d', h1, h2⟩ := T3_ofDrawn (X := X) (mem := M) (t := t) (la := la) (g := g) z 0 hW h.2.2.1 hP (show e ≤ 20 by omega)
      exact ⟨d', la, h1, h.2.2.2.1, by simp only [eX4_lots_0, eX4_lots_1, eX4_lots_2, eX4_lots_5, eX4_lots_6, eX4_lots_8, eX4_lots_11, eX4_lots_12, eX4_lots_13, eX4_lots_15, eX4_lots_18, eX4_lots_19, eX4_lots_21, eX4_lots_24, eX4_lots_25, eX4_lots_26, eX4_lots_29, eX4_lots_30, eX4_lots_31, eX4_lots_34, eX4_lots_35, eX4_lots_37, eX4_lots_40, eX4_lots_41, eX4_lots_42, eX4_lots_45, eX4_lots_46, eX4_lots_49, eX4_lots_50, eX4_lots_51, eX4_lots_52, eX4_lots_53, eX4_lots_56, eX4_lots_57, eX4_lots_60, eX4_lots_61, eX4_lots_64, evb_some, evm_some, evc_some, evc_none, gd, if_true, if_false, eq_self, and_self, and_true, true_and, ne_eq, not_false_eq_true, or_true, true_or, cf0_0, cf0_1, cf0_2, cf0_3, cf0_4, cf0_5, cf0_6, cf23_0, cf23_1, cf23_2, cf23_3, cf48_0, cf48_1, cf50_0, cf50_1, cg0, cg23, cg48, cg50, cg1, cg12, cg24, cg35, Int.reduceEq, Int.reduceLT, Int.reduceLE, ↓reduceIte, c1, c2, h2]⟩
    · obtain ⟨d', h1, h2⟩ := T3_ofDrawn (X := X) (mem := M) (t := t) (la := la) (g := g) z 1 hW h.2.2.1 hP (show e ≤ 20 by omega)
      exact ⟨d', la, h1, h.2.2.2.1, by simp only [eX4_lots_0, eX4_lots_1, eX4_lots_2, eX4_lots_5, eX4_lots_6, eX4_lots_8, eX4_lots_11, eX4_lots_12, eX4_lots_13, eX4_lots_15, eX4_lots_18, eX4_lots_19, eX4_lots_21, eX4_lots_24, eX4_lots_25, eX4_lots_26, eX4_lots_29, eX4_lots_30, eX4_lots_31, eX4_lots_34, eX4_lots_35, eX4_lots_37, eX4_lots_40, eX4_lots_41, eX4_lots_42, eX4_lots_45, eX4_lots_46, eX4_lots_49, eX4_lots_50, eX4_lots_51, eX4_lots_52, eX4_lots_53, eX4_lots_56, eX4_lots_57, eX4_lots_60, eX4_lots_61, eX4_lots_64, evb_some, evm_some, evc_some, evc_none, gd, if_true, if_false, eq_self, and_self, and_true, true_and, ne_eq, not_false_eq_true, or_true, true_or, cf0_0, cf0_1, cf0_2, cf0_3, cf0_4, cf0_5, cf0_6, cf23_0, cf23_1, cf23_2, cf23_3, cf48_0, cf48_1, cf50_0, cf50_1, cg0, cg23, cg48, cg50, cg1, cg12, cg24, cg35, Int.reduceEq, Int.reduceLT, Int.reduceLE, ↓reduceIte, c1, c2, h2]⟩
  · obtain ⟨g', h1, h2⟩ := T5_lots (X := X) (mem := M) (z := z) hW hk hP (show 1 ≤ e ∧ e ≤ 20 by omega) (show 0 ≤ w ∧ w ≤ 1 by omega)
    exact ⟨g', GQ_le h1 (by decide), h2⟩
end LO
