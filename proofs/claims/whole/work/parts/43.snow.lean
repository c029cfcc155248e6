/-! FRACTIONS: SNOW, MEAN -/
section SN
variable {X : List Int} {mem : AM} {n t mi la g gm d : ST}
theorem tmod_n (a b : Nat) : (a : Int).tmod (b : Int) = ((a % b : Nat) : Int) := rfl
theorem w64_n {a : Nat} (h : a < 4611686018427387904) : w64 ((a : Nat) : Int) = (a : Int) := w64_id (by omega) (by omega)
theorem gcd_s (a b : Nat) : Nat.gcd a b = Nat.gcd b (a % b) := by rw [Nat.gcd_comm a b, Nat.gcd_rec b a, Nat.gcd_comm]
theorem lc0 {b : Nat} (h : 0 < b) : lcmp (b : Int) 0 = 1 := by unfold lcmp; rw [if_pos (by omega)]
theorem lc00 : lcmp ((0 : Nat) : Int) 0 = 0 := rfl
theorem lc1 {b : Nat} (h : 1 ≤ b) : ¬ lcmp (b : Int) 1 < 0 := by unfold lcmp; split <;> (try split) <;> omega
theorem lc1n : lcmp ((0 : Nat) : Int) 1 < 0 := by decide
theorem nz {b : Nat} (h : 0 < b) : ¬ (b : Int) = 0 := by omega
theorem T4_gcd {M : AM} {a b : Nat} (hb : b < 1125899906842624) (ha : a < 4611686018427387904) : ev X m_X4_greatestDivisor 0 [vL (a : Int), vS, vL (b : Int), vS, vS, vS, vS, vS, vS, vS, vS] [] M = some (some (vL ((Nat.gcd a b : Nat) : Int)), M) := by
  have stop : ∀ (x y : AV) (s : Nat) (a : Nat) (z1 z2 : AV), ev X m_X4_greatestDivisor 9 [x, vS, y, vS, vL (a : Int), vS, vL ((0 : Nat) : Int), vS, vI (s : Int), z1, z2] [] M = some (some (vL (a : Int)), M) := by
    intro x y s a z1 z2
    rw [eX4_greatestDivisor_9]
    by_cases q : (s : Int) < 100
    · simp only [eX4_greatestDivisor_0, eX4_greatestDivisor_1, eX4_greatestDivisor_3, eX4_greatestDivisor_4, eX4_greatestDivisor_6, eX4_greatestDivisor_7, eX4_greatestDivisor_11, eX4_greatestDivisor_13, eX4_greatestDivisor_16, eX4_greatestDivisor_18, eX4_greatestDivisor_19, eX4_greatestDivisor_20, eX4_greatestDivisor_23, eX4_greatestDivisor_25, eX4_greatestDivisor_27, eX4_greatestDivisor_28, eX4_greatestDivisor_30, eX4_greatestDivisor_32, eX4_greatestDivisor_34, eX4_greatestDivisor_36, eX4_greatestDivisor_38, eX4_greatestDivisor_41, eX4_greatestDivisor_44, eX4_greatestDivisor_46, evb_some, evm_some, evc_some, evc_none, gd, if_true, if_false, eq_self, and_self, and_true, true_and, ne_eq, not_false_eq_true, or_true, true_or, Int.reduceEq, Int.reduceLT, Int.reduceLE, ↓reduceIte, q, lc00]
    · simp only [eX4_greatestDivisor_0, eX4_greatestDivisor_1, eX4_greatestDivisor_3, eX4_greatestDivisor_4, eX4_greatestDivisor_6, eX4_greatestDivisor_7, eX4_greatestDivisor_11, eX4_greatestDivisor_13, eX4_greatestDivisor_16, eX4_greatestDivisor_18, eX4_greatestDivisor_19, eX4_greatestDivisor_20, eX4_greatestDivisor_23, eX4_greatestDivisor_25, eX4_greatestDivisor_27, eX4_greatestDivisor_28, eX4_greatestDivisor_30, eX4_greatestDivisor_32, eX4_greatestDivisor_34, eX4_greatestDivisor_36, eX4_greatestDivisor_38, eX4_greatestDivisor_41, eX4_greatestDivisor_44, eX4_greatestDivisor_46, evb_some, evm_some, evc_some, evc_none, gd, if_true, if_false, eq_self, and_self, and_true, true_and, ne_eq, not_false_eq_true, or_true, true_or, Int.reduceEq, Int.reduceLT, Int.reduceLE, ↓reduceIte, q]
  have step : ∀ (x y : AV) (s a b : Nat) (z1 z2 : AV), s < 100 → 0 < b → b < 4611686018427387904 → ev X m_X4_greatestDivisor 9 [x, vS, y, vS, vL (a : Int), vS, vL (b : Int), vS, vI (s : Int), z1, z2] [] M = ev X m_X4_greatestDivisor 9 [x, vS, y, vS, vL (b : Int), vS, vL ((a % b : Nat) : Int), vS, vI ((s + 1 : Nat) : Int), vL ((a % b : Nat) : Int), vS] [] M := by
    intro x y s a b z1 z2 hs hb hb2
    have hm : a % b < b := Nat.mod_lt _ hb
    rw [eX4_greatestDivisor_9]
    simp only [eX4_greatestDivisor_0, eX4_greatestDivisor_1, eX4_greatestDivisor_3, eX4_greatestDivisor_4, eX4_greatestDivisor_6, eX4_greatestDivisor_7, eX4_greatestDivisor_11, eX4_greatestDivisor_13, eX4_greatestDivisor_16, eX4_greatestDivisor_18, eX4_greatestDivisor_19, eX4_greatestDivisor_20, eX4_greatestDivisor_23, eX4_greatestDivisor_25, eX4_greatestDivisor_27, eX4_greatestDivisor_28, eX4_greatestDivisor_30, eX4_greatestDivisor_32, eX4_greatestDivisor_34, eX4_greatestDivisor_36, eX4_greatestDivisor_38, eX4_greatestDivisor_41, eX4_greatestDivisor_44, eX4_greatestDivisor_46, evb_some, evm_some, evc_some, evc_none, gd, if_true, if_false, eq_self, and_self, and_true, true_and, ne_eq, not_false_eq_true, or_true, true_or, Int.reduceEq, Int.reduceLT, Int.reduceLE, ↓reduceIte, show (s : Int) < 100 by omega, lc0 hb, nz hb, tmod_n, w64_n (show a % b < 4611686018427387904 by omega), w32_k1 (show s < 2147483647 by omega)]
  have key : ∀ (m s a b : Nat) (x y z1 z2 : AV), b < 2 ^ m → b < 4611686018427387904 → s + 2 * m ≤ 100 → ev X m_X4_greatestDivisor 9 [x, vS, y, vS, vL (a : Int), vS, vL (b : Int), vS, vI (s : Int), z1, z2] [] M = some (some (vL ((Nat.gcd a b : Nat) : Int)), M) := by
    intro m
    induction m with
    | zero =>
      intro s a b x y z1 z2 hb hb2 hs
      have e : b = 0 := by
        rw [Nat.pow_zero] at hb
        omega
      subst e
      rw [stop, Nat.gcd_zero_right]
    | succ m ih =>
      intro s a b x y z1 z2 hb hb2 hs
      have hp : 2 ^ (m + 1) = 2 * 2 ^ m := by rw [Nat.pow_succ, Nat.mul_comm]
      rcases Nat.eq_zero_or_pos b with e | hb0
      · subst e
        rw [stop, Nat.gcd_zero_right]
      · rw [step x y s a b z1 z2 (by omega) hb0 hb2, gcd_s a b]
        have hm : a % b < b := Nat.mod_lt _ hb0
        by_cases q : a % b < 2 ^ m
        · exact ih (s + 1) b (a % b) _ _ _ _ q (by omega) (by omega)
        · have hp0 : 0 < 2 ^ m := Nat.pow_pos (by decide)
          have h0 : 0 < a % b := by omega
          rw [step x y (s + 1) b (a % b) _ _ (by omega) h0 (by omega), gcd_s b (a % b)]
          have hq : b % (a % b) ≤ b - a % b := by
            have h3 := Nat.mod_add_div b (a % b)
            have h4 : 0 < b / (a % b) := Nat.div_pos (by omega) h0
            have h5 : (a % b) * 1 ≤ (a % b) * (b / (a % b)) := Nat.mul_le_mul_left _ h4
            omega
          exact ih (s + 1 + 1) (a % b) (b % (a % b)) _ _ _ _ (by omega) (by omega) (by omega)
  refine Eq.trans ?_ (key 50 0 a b (vL (a : Int)) (vL (b : Int)) vS vS (by rw [show (2 : Nat) ^ 50 = 1125899906842624 by decide]; exact hb) (by omega) (by omega))
  simp only [eX4_greatestDivisor_0, eX4_greatestDivisor_1, eX4_greatestDivisor_3, eX4_greatestDivisor_4, eX4_greatestDivisor_6, eX4_greatestDivisor_7, evb_some, evm_some, evc_some, evc_none, gd, if_true, if_false, eq_self, and_self, and_true, true_and, ne_eq, not_false_eq_true, or_true, true_or]
  rfl
theorem T5_gcd {M : AM} : ∀ (b a : Nat) (x y z1 z2 : AV), b < 4611686018427387904 → ev X m_X5_divisor 6 [x, vS, y, vS, vL (a : Int), vS, vL (b : Int), vS, z1, z2] [] M = some (some (vL ((Nat.gcd a b : Nat) : Int)), M) := by
  intro b
  induction b using Nat.strongRecOn with
  | ind b ih =>
    intro a x y z1 z2 hb
    rw [eX5_divisor_6]
    rcases Nat.eq_zero_or_pos b with e | hb0
    · subst e
      simp only [eX5_divisor_0, eX5_divisor_1, eX5_divisor_3, eX5_divisor_4, eX5_divisor_8, eX5_divisor_9, eX5_divisor_10, eX5_divisor_13, eX5_divisor_15, eX5_divisor_17, eX5_divisor_18, eX5_divisor_20, eX5_divisor_22, eX5_divisor_24, eX5_divisor_26, eX5_divisor_28, eX5_divisor_31, eX5_divisor_33, evb_some, evm_some, evc_some, evc_none, gd, if_true, if_false, eq_self, and_self, and_true, true_and, ne_eq, not_false_eq_true, or_true, true_or, Int.reduceEq, Int.reduceLT, Int.reduceLE, ↓reduceIte, lc00, Nat.gcd_zero_right]
    · have hm : a % b < b := Nat.mod_lt _ hb0
      simp only [eX5_divisor_0, eX5_divisor_1, eX5_divisor_3, eX5_divisor_4, eX5_divisor_8, eX5_divisor_9, eX5_divisor_10, eX5_divisor_13, eX5_divisor_15, eX5_divisor_17, eX5_divisor_18, eX5_divisor_20, eX5_divisor_22, eX5_divisor_24, eX5_divisor_26, eX5_divisor_28, eX5_divisor_31, eX5_divisor_33, evb_some, evm_some, evc_some, evc_none, gd, if_true, if_false, eq_self, and_self, and_true, true_and, ne_eq, not_false_eq_true, or_true, true_or, Int.reduceEq, Int.reduceLT, Int.reduceLE, ↓reduceIte, lc0 hb0, nz hb0, tmod_n, w64_n (show a % b < 4611686018427387904 by omega)]
      rw [gcd_s a b]
      exact ih (a % b) hm b _ _ _ _ (by omega)
theorem T5_divisor {M : AM} {a b : Nat} (hb : b < 4611686018427387904) : ev X m_X5_divisor 0 [vL (a : Int), vS, vL (b : Int), vS, vS, vS, vS, vS, vS, vS] [] M = some (some (vL ((Nat.gcd a b : Nat) : Int)), M) := by
  refine Eq.trans ?_ (T5_gcd (X := X) b a (vL (a : Int)) (vL (b : Int)) vS vS hb)
  simp only [eX5_divisor_0, eX5_divisor_1, eX5_divisor_3, eX5_divisor_4, evb_some, evm_some, evc_some, evc_none, gd, if_true, if_false, eq_self, and_self, and_true, true_and, ne_eq, not_false_eq_true, or_true, true_or]
def prt (a b : Nat) (w : Int) : Int := if w = 0 then w64 ((a : Int).tdiv ((Nat.gcd a b : Nat) : Int)) else w64 ((b : Int).tdiv ((Nat.gcd a b : Nat) : Int))
theorem T4_partOf {M : AM} {a b : Nat} {w : Int} (ha : a < 4611686018427387904) (hb : b < 1125899906842624) (hb1 : 1 ≤ b) : ev X m_X4_partOf 0 [vL (a : Int), vS, vL (b : Int), vS, vI w, vS, vS] [] M = some (some (vL (prt a b w)), M) := by
  have hg : 0 < Nat.gcd a b := Nat.gcd_pos_of_pos_right _ hb1
  have l1 := lc1 hb1
  have l2 := lc1 (show 1 ≤ Nat.gcd a b from hg)
  unfold prt
  by_cases q : w = 0
  · simp only [eX4_partOf_0, eX4_partOf_1, eX4_partOf_2, eX4_partOf_5, eX4_partOf_7, eX4_partOf_8, eX4_partOf_9, eX4_partOf_10, eX4_partOf_13, eX4_partOf_15, eX4_partOf_16, eX4_partOf_17, eX4_partOf_20, eX4_partOf_22, eX4_partOf_25, eX4_partOf_26, eX4_partOf_29, eX4_partOf_30, eX4_partOf_31, eX4_partOf_33, eX4_partOf_36, eX4_partOf_37, eX4_partOf_40, eX4_partOf_41, eX4_partOf_43, eX4_partOf_44, evb_some, evm_some, evc_some, evc_none, gd, if_true, if_false, eq_self, and_self, and_true, true_and, ne_eq, not_false_eq_true, or_true, true_or, Int.reduceEq, Int.reduceLT, Int.reduceLE, ↓reduceIte, T4_gcd hb ha, l1, l2, q, nz hg]
  · simp only [eX4_partOf_0, eX4_partOf_1, eX4_partOf_2, eX4_partOf_5, eX4_partOf_7, eX4_partOf_8, eX4_partOf_9, eX4_partOf_10, eX4_partOf_13, eX4_partOf_15, eX4_partOf_16, eX4_partOf_17, eX4_partOf_20, eX4_partOf_22, eX4_partOf_25, eX4_partOf_26, eX4_partOf_29, eX4_partOf_30, eX4_partOf_31, eX4_partOf_33, eX4_partOf_36, eX4_partOf_37, eX4_partOf_40, eX4_partOf_41, eX4_partOf_43, eX4_partOf_44, evb_some, evm_some, evc_some, evc_none, gd, if_true, if_false, eq_self, and_self, and_true, true_and, ne_eq, not_false_eq_true, or_true, true_or, Int.reduceEq, Int.reduceLT, Int.reduceLE, ↓reduceIte, T4_gcd hb ha, l1, l2, q, nz hg]
theorem T4_partOf0 {M : AM} {a : Nat} {w : Int} (ha : a < 4611686018427387904) : ev X m_X4_partOf 0 [vL (a : Int), vS, vL ((0 : Nat) : Int), vS, vI w, vS, vS] [] M = some (some (vL (if w = 0 then 0 else 1)), M) := by
  by_cases q : w = 0
  · simp only [eX4_partOf_0, eX4_partOf_1, eX4_partOf_2, eX4_partOf_5, eX4_partOf_7, eX4_partOf_8, eX4_partOf_9, eX4_partOf_10, eX4_partOf_13, eX4_partOf_15, eX4_partOf_16, eX4_partOf_17, eX4_partOf_20, eX4_partOf_22, eX4_partOf_25, eX4_partOf_26, eX4_partOf_29, eX4_partOf_30, eX4_partOf_31, eX4_partOf_33, eX4_partOf_36, eX4_partOf_37, eX4_partOf_40, eX4_partOf_41, eX4_partOf_43, eX4_partOf_44, evb_some, evm_some, evc_some, evc_none, gd, if_true, if_false, eq_self, and_self, and_true, true_and, ne_eq, not_false_eq_true, or_true, true_or, Int.reduceEq, Int.reduceLT, Int.reduceLE, ↓reduceIte, T4_gcd (show 0 < 1125899906842624 by decide) ha, lc1n, q]
  · simp only [eX4_partOf_0, eX4_partOf_1, eX4_partOf_2, eX4_partOf_5, eX4_partOf_7, eX4_partOf_8, eX4_partOf_9, eX4_partOf_10, eX4_partOf_13, eX4_partOf_15, eX4_partOf_16, eX4_partOf_17, eX4_partOf_20, eX4_partOf_22, eX4_partOf_25, eX4_partOf_26, eX4_partOf_29, eX4_partOf_30, eX4_partOf_31, eX4_partOf_33, eX4_partOf_36, eX4_partOf_37, eX4_partOf_40, eX4_partOf_41, eX4_partOf_43, eX4_partOf_44, evb_some, evm_some, evc_some, evc_none, gd, if_true, if_false, eq_self, and_self, and_true, true_and, ne_eq, not_false_eq_true, or_true, true_or, Int.reduceEq, Int.reduceLT, Int.reduceLE, ↓reduceIte, T4_gcd (show 0 < 1125899906842624 by decide) ha, lc1n, q]
theorem T5_partOf {M : AM} {a b : Nat} {w : Int} (hb : b < 4611686018427387904) (hb1 : 1 ≤ b) : ev X m_X5_partOf 0 [vL (a : Int), vS, vL (b : Int), vS, vI w] [] M = some (some (vL (prt a b w)), M) := by
  have hg : 0 < Nat.gcd a b := Nat.gcd_pos_of_pos_right _ hb1
  unfold prt
  by_cases q : w = 0
  · simp only [eX5_partOf_0, eX5_partOf_2, eX5_partOf_5, eX5_partOf_6, eX5_partOf_9, eX5_partOf_10, eX5_partOf_11, eX5_partOf_12, eX5_partOf_15, eX5_partOf_16, evb_some, evm_some, evc_some, evc_none, gd, if_true, if_false, eq_self, and_self, and_true, true_and, ne_eq, not_false_eq_true, or_true, true_or, Int.reduceEq, Int.reduceLT, Int.reduceLE, ↓reduceIte, T5_divisor hb, q, nz hg]
  · simp only [eX5_partOf_0, eX5_partOf_2, eX5_partOf_5, eX5_partOf_6, eX5_partOf_9, eX5_partOf_10, eX5_partOf_11, eX5_partOf_12, eX5_partOf_15, eX5_partOf_16, evb_some, evm_some, evc_some, evc_none, gd, if_true, if_false, eq_self, and_self, and_true, true_and, ne_eq, not_false_eq_true, or_true, true_or, Int.reduceEq, Int.reduceLT, Int.reduceLE, ↓reduceIte, T5_divisor hb, q, nz hg]
/-- refusals of longs -/
theorem T4_nl (hg : GL g) {k : Nat} (hk : 1 ≤ k ∧ k ≤ 6) : ev X m_X4_refuseLong 0 [vR 0, vI (-(k : Int))] [] (cpt mem n t mi la g) = some (some (vL (w64 (4000000000000000000 - -(k : Int)))), cpt mem n t mi la (setL g 0 (rb (g.2 0) k))) := by
  simp only [eX4_refuseLong_0, eX4_refuseLong_3, eX4_refuseLong_4, eX4_refuseLong_5, eX4_refuseLong_8, eX4_refuseLong_9, eX4_refuseLong_10, evb_some, evm_some, evc_some, evc_none, gd, if_true, if_false, eq_self, and_self, and_true, true_and, ne_eq, not_false_eq_true, or_true, true_or, cf0_0, cf0_1, cf0_2, cf0_3, cf0_4, cf0_5, cf0_6, cf23_0, cf23_1, cf23_2, cf23_3, cf48_0, cf48_1, cf50_0, cf50_1, cg0, cg23, cg48, cg50, cg1, cg12, cg24, cg35, Int.reduceEq, Int.reduceLT, Int.reduceLE, ↓reduceIte, T4_refuse hg hk]
theorem T5_nl (hg : ML g) {k : Nat} (hk : 1 ≤ k ∧ k ≤ 6) : ev X m_X5_lowestOf 0 [vR 53, vI (-(k : Int))] [] (mpt mem g d) = some (some (vL (w64 (4000000000000000000 - -(k : Int)))), mpt mem (setL g 0 (rb (g.2 0) k)) d) := by
  have e : w32 (-(-(k : Int))) = (k : Int) := by rw [Int.neg_neg]; exact w32_id (by omega) (by omega)
  have k7 : k < (g.2 0).length := by rw [hg.1]; omega
  simp only [eX5_lowestOf_0, eX5_lowestOf_1, eX5_lowestOf_4, eX5_lowestOf_5, eX5_lowestOf_6, eX5_lowestOf_7, eX5_lowestOf_8, eX5_lowestOf_9, eX5_lowestOf_10, eX5_lowestOf_11, eX5_lowestOf_14, eX5_lowestOf_15, eX5_lowestOf_16, eX5_lowestOf_17, evb_some, evm_some, evc_some, evc_none, gd, if_true, if_false, eq_self, and_self, and_true, true_and, ne_eq, not_false_eq_true, or_true, true_or, mg, mf0, mf1, mf2, mf3, mf4, mf5, mf6, mf7, mf8, mf9, mf10, mf11, mf12, mf13, mf14, mf15, mf16, mf17, mf18, mf19, mf20, mf21, mf22, mf23, mf24, mf25, mf26, mf27, ma54, ma55, ma56, ma57, ma58, ma59, ma60, ma61, ma62, ma63, ma64, ma65, ma66, ma67, ma68, ma69, ma70, ma71, mw11, mw12, mw13, mw18, mw19, mw20, mw22, mw23, mw24, mw27, mx54, mx55, mx56, mx57, mx58, mx59, mx60, mx61, mx62, mx63, mx64, mx65, mx66, mx67, mx68, mx69, mx70, mx71, e, k7, rb]
theorem T4_nl1 (hg : GL g) : ev X m_X4_refuseLong 0 [vR 0, vI (-1)] [] (cpt mem n t mi la g) = some (some (vL (w64 (4000000000000000000 - -1))), cpt mem n t mi la (setL g 0 (rb (g.2 0) 1))) := T4_nl hg (k := 1) (by decide)
theorem T4_nl2 (hg : GL g) : ev X m_X4_refuseLong 0 [vR 0, vI (-2)] [] (cpt mem n t mi la g) = some (some (vL (w64 (4000000000000000000 - -2))), cpt mem n t mi la (setL g 0 (rb (g.2 0) 2))) := T4_nl hg (k := 2) (by decide)
theorem T4_nl4 (hg : GL g) : ev X m_X4_refuseLong 0 [vR 0, vI (-4)] [] (cpt mem n t mi la g) = some (some (vL (w64 (4000000000000000000 - -4))), cpt mem n t mi la (setL g 0 (rb (g.2 0) 4))) := T4_nl hg (k := 4) (by decide)
theorem T4_nl6 (hg : GL g) : ev X m_X4_refuseLong 0 [vR 0, vI (-6)] [] (cpt mem n t mi la g) = some (some (vL (w64 (4000000000000000000 - -6))), cpt mem n t mi la (setL g 0 (rb (g.2 0) 6))) := T4_nl hg (k := 6) (by decide)
theorem T5_nl1 (hg : ML g) : ev X m_X5_lowestOf 0 [vR 53, vI (-1)] [] (mpt mem g d) = some (some (vL (w64 (4000000000000000000 - -1))), mpt mem (setL g 0 (rb (g.2 0) 1)) d) := T5_nl hg (k := 1) (by decide)
theorem T5_nl2 (hg : ML g) : ev X m_X5_lowestOf 0 [vR 53, vI (-2)] [] (mpt mem g d) = some (some (vL (w64 (4000000000000000000 - -2))), mpt mem (setL g 0 (rb (g.2 0) 2)) d) := T5_nl hg (k := 2) (by decide)
theorem T5_nl4 (hg : ML g) : ev X m_X5_lowestOf 0 [vR 53, vI (-4)] [] (mpt mem g d) = some (some (vL (w64 (4000000000000000000 - -4))), mpt mem (setL g 0 (rb (g.2 0) 4)) d) := T5_nl hg (k := 4) (by decide)
theorem T5_nl6 (hg : ML g) : ev X m_X5_lowestOf 0 [vR 53, vI (-6)] [] (mpt mem g d) = some (some (vL (w64 (4000000000000000000 - -6))), mpt mem (setL g 0 (rb (g.2 0) 6)) d) := T5_nl hg (k := 6) (by decide)
theorem sumH_b (h : DW d) : 0 ≤ sumH d ∧ sumH d ≤ 3600 := by
  have h1 := itr_inv (f := fun k s => w32 (s + (d.2 5).getD k 0)) (fun (k : Nat) (s : Int) => 0 ≤ s ∧ s ≤ 100 * (k : Int)) 36 (fun k s hk hi => by
    have h7 := h.2.2.2.2.2.1 (k / 6) (k % 6) (by omega) (by omega)
    unfold hat at h7
    rw [show 6 * (k / 6) + k % 6 = k by omega] at h7
    rw [w32_id (by omega) (by omega)]
    omega) 36 0 0 (by omega) (by omega)
  unfold sumH
  omega
theorem B_mean (h : Rla n t mi la g gm) (w : Int) : Bth X m_X4_mean [vI w] m_X5_mean [vI w] mem n t mi la g gm := by
  have hW := h.1; have hL := hW.1; have h6 := hW.2.1.2; have h8 := hW.2.2.1.2; have hg := Rla_g h; have hm := Rla_m h; obtain ⟨l1, l2, l3, l4, l5, l6, l7, l8, l9, l10⟩ := id hL
  by_cases c1 : w < 0
  · exact Bth_no 2 (r := vL (w64 (4000000000000000000 - -2))) h (fun M => by simp only [eX4_mean_0, eX4_mean_1, eX4_mean_4, eX4_mean_5, eX4_mean_6, eX4_mean_9, eX4_mean_10, eX4_mean_12, eX4_mean_15, eX4_mean_16, eX4_mean_17, eX4_mean_20, eX4_mean_23, eX4_mean_24, eX4_mean_25, eX4_mean_28, eX4_mean_31, eX4_mean_32, eX4_mean_35, eX4_mean_38, eX4_mean_39, eX4_mean_40, eX4_mean_41, eX4_mean_42, eX4_mean_43, eX4_mean_46, evb_some, evm_some, evc_some, evc_none, gd, if_true, if_false, eq_self, and_self, and_true, true_and, ne_eq, not_false_eq_true, or_true, true_or, cf0_0, cf0_1, cf0_2, cf0_3, cf0_4, cf0_5, cf0_6, cf23_0, cf23_1, cf23_2, cf23_3, cf48_0, cf48_1, cf50_0, cf50_1, cg0, cg23, cg48, cg50, cg1, cg12, cg24, cg35, Int.reduceEq, Int.reduceLT, Int.reduceLE, ↓reduceIte, T4_nl2 hg, c1]) (fun M => by simp only [eX5_mean_0, eX5_mean_1, eX5_mean_2, eX5_mean_3, eX5_mean_6, eX5_mean_9, eX5_mean_10, eX5_mean_12, eX5_mean_15, eX5_mean_16, eX5_mean_17, eX5_mean_20, eX5_mean_21, eX5_mean_24, eX5_mean_25, eX5_mean_26, eX5_mean_29, eX5_mean_30, eX5_mean_33, eX5_mean_34, eX5_mean_35, eX5_mean_38, eX5_mean_39, eX5_mean_42, eX5_mean_43, eX5_mean_44, eX5_mean_45, eX5_mean_46, eX5_mean_47, eX5_mean_50, evb_some, evm_some, evc_some, evc_none, gd, if_true, if_false, eq_self, and_self, and_true, true_and, ne_eq, not_false_eq_true, or_true, true_or, mg, mf0, mf1, mf2, mf3, mf4, mf5, mf6, mf7, mf8, mf9, mf10, mf11, mf12, mf13, mf14, mf15, mf16, mf17, mf18, mf19, mf20, mf21, mf22, mf23, mf24, mf25, mf26, mf27, ma54, ma55, ma56, ma57, ma58, ma59, ma60, ma61, ma62, ma63, ma64, ma65, ma66, ma67, ma68, ma69, ma70, ma71, Int.reduceEq, Int.reduceLT, Int.reduceLE, ↓reduceIte, T5_isIn, show ¬ (0 ≤ w ∧ w ≤ 1) by omega, T5_nl2 hm])
  by_cases c2 : 1 < w
  · exact Bth_no 2 (r := vL (w64 (4000000000000000000 - -2))) h (fun M => by simp only [eX4_mean_0, eX4_mean_1, eX4_mean_4, eX4_mean_5, eX4_mean_6, eX4_mean_9, eX4_mean_10, eX4_mean_12, eX4_mean_15, eX4_mean_16, eX4_mean_17, eX4_mean_20, eX4_mean_23, eX4_mean_24, eX4_mean_25, eX4_mean_28, eX4_mean_31, eX4_mean_32, eX4_mean_35, eX4_mean_38, eX4_mean_39, eX4_mean_40, eX4_mean_41, eX4_mean_42, eX4_mean_43, eX4_mean_46, evb_some, evm_some, evc_some, evc_none, gd, if_true, if_false, eq_self, and_self, and_true, true_and, ne_eq, not_false_eq_true, or_true, true_or, cf0_0, cf0_1, cf0_2, cf0_3, cf0_4, cf0_5, cf0_6, cf23_0, cf23_1, cf23_2, cf23_3, cf48_0, cf48_1, cf50_0, cf50_1, cg0, cg23, cg48, cg50, cg1, cg12, cg24, cg35, Int.reduceEq, Int.reduceLT, Int.reduceLE, ↓reduceIte, T4_nl2 hg, c1, c2]) (fun M => by simp only [eX5_mean_0, eX5_mean_1, eX5_mean_2, eX5_mean_3, eX5_mean_6, eX5_mean_9, eX5_mean_10, eX5_mean_12, eX5_mean_15, eX5_mean_16, eX5_mean_17, eX5_mean_20, eX5_mean_21, eX5_mean_24, eX5_mean_25, eX5_mean_26, eX5_mean_29, eX5_mean_30, eX5_mean_33, eX5_mean_34, eX5_mean_35, eX5_mean_38, eX5_mean_39, eX5_mean_42, eX5_mean_43, eX5_mean_44, eX5_mean_45, eX5_mean_46, eX5_mean_47, eX5_mean_50, evb_some, evm_some, evc_some, evc_none, gd, if_true, if_false, eq_self, and_self, and_true, true_and, ne_eq, not_false_eq_true, or_true, true_or, mg, mf0, mf1, mf2, mf3, mf4, mf5, mf6, mf7, mf8, mf9, mf10, mf11, mf12, mf13, mf14, mf15, mf16, mf17, mf18, mf19, mf20, mf21, mf22, mf23, mf24, mf25, mf26, mf27, ma54, ma55, ma56, ma57, ma58, ma59, ma60, ma61, ma62, ma63, ma64, ma65, ma66, ma67, ma68, ma69, ma70, ma71, Int.reduceEq, Int.reduceLT, Int.reduceLE, ↓reduceIte, T5_isIn, show ¬ (0 ≤ w ∧ w ≤ 1) by omega, T5_nl2 hm])
  have c3 : 0 ≤ w ∧ w ≤ 1 := by omega
  have hs := sumH_b hW
  obtain ⟨s, hs2⟩ := n2i hs.1
  have h0 := hW.2.1.1
  obtain ⟨P, hP⟩ := n2i h0
  by_cases c4 : P < 2
  · have e : w32 ((P : Int) * w32 ((P : Int) - 1)) = ((0 : Nat) : Int) := by
      rcases (show P = 0 ∨ P = 1 by omega) with rfl | rfl <;> decide
    have e2 : w = (if w = 0 then 0 else 1) := by split <;> omega
    refine Bth_q0 (vL (if w = 0 then 0 else 1)) h (fun M => by simp only [eX4_mean_0, eX4_mean_1, eX4_mean_4, eX4_mean_5, eX4_mean_6, eX4_mean_9, eX4_mean_10, eX4_mean_12, eX4_mean_15, eX4_mean_16, eX4_mean_17, eX4_mean_20, eX4_mean_23, eX4_mean_24, eX4_mean_25, eX4_mean_28, eX4_mean_31, eX4_mean_32, eX4_mean_35, eX4_mean_38, eX4_mean_39, eX4_mean_40, eX4_mean_41, eX4_mean_42, eX4_mean_43, eX4_mean_46, evb_some, evm_some, evc_some, evc_none, gd, if_true, if_false, eq_self, and_self, and_true, true_and, ne_eq, not_false_eq_true, or_true, true_or, cf0_0, cf0_1, cf0_2, cf0_3, cf0_4, cf0_5, cf0_6, cf23_0, cf23_1, cf23_2, cf23_3, cf48_0, cf48_1, cf50_0, cf50_1, cg0, cg23, cg48, cg50, cg1, cg12, cg24, cg35, Int.reduceEq, Int.reduceLT, Int.reduceLE, ↓reduceIte, q1_0, q1_1, q1_2, q1_3, q1_4, q1_5, q1_6, q1_7, q1_8, q1_9, q1_10, q1_11, q1_12, q12_0, q12_1, q12_2, q12_3, q12_4, q12_5, q12_6, q12_7, q12_8, q12_9, q12_10, q12_11, q12_12, q24_0, q24_1, q24_2, q24_3, q24_4, q24_5, q24_6, q24_7, q24_8, q24_9, q24_10, q24_11, q24_12, q35_0, q35_1, q35_2, q35_3, q35_4, q35_5, q35_6, q35_7, q35_8, q35_9, q35_10, q35_11, q35_12, c1, c2, n_hatesTogether hL, hP, hs2, e, T4_partOf0 (show s < 4611686018427387904 by omega)]) (fun M => ?_)
    simp only [eX5_mean_0, eX5_mean_1, eX5_mean_2, eX5_mean_3, eX5_mean_6, eX5_mean_9, eX5_mean_10, eX5_mean_12, eX5_mean_15, eX5_mean_16, eX5_mean_17, eX5_mean_20, eX5_mean_21, eX5_mean_24, eX5_mean_25, eX5_mean_26, eX5_mean_29, eX5_mean_30, eX5_mean_33, eX5_mean_34, eX5_mean_35, eX5_mean_38, eX5_mean_39, eX5_mean_42, eX5_mean_43, eX5_mean_44, eX5_mean_45, eX5_mean_46, eX5_mean_47, eX5_mean_50, evb_some, evm_some, evc_some, evc_none, gd, if_true, if_false, eq_self, and_self, and_true, true_and, ne_eq, not_false_eq_true, or_true, true_or, mg, mf0, mf1, mf2, mf3, mf4, mf5, mf6, mf7, mf8, mf9, mf10, mf11, mf12, mf13, mf14, mf15, mf16, mf17, mf18, mf19, mf20, mf21, mf22, mf23, mf24, mf25, mf26, mf27, ma54, ma55, ma56, ma57, ma58, ma59, ma60, ma61, ma62, ma63, ma64, ma65, ma66, ma67, ma68, ma69, ma70, ma71, Int.reduceEq, Int.reduceLT, Int.reduceLE, ↓reduceIte, T5_isIn, c3, hP, show (P : Int) < 2 by omega]
    rw [← e2]
  · have e : w32 ((P : Int) * w32 ((P : Int) - 1)) = ((P * (P - 1) : Nat) : Int) := by
      rcases (show P = 2 ∨ P = 3 ∨ P = 4 ∨ P = 5 ∨ P = 6 by omega) with rfl | rfl | rfl | rfl | rfl <;> decide
    have hb : 1 ≤ P * (P - 1) ∧ P * (P - 1) < 1125899906842624 := by
      rcases (show P = 2 ∨ P = 3 ∨ P = 4 ∨ P = 5 ∨ P = 6 by omega) with rfl | rfl | rfl | rfl | rfl <;> decide
    exact Bth_q0 (vL (prt s (P * (P - 1)) w)) h (fun M => by simp only [eX4_mean_0, eX4_mean_1, eX4_mean_4, eX4_mean_5, eX4_mean_6, eX4_mean_9, eX4_mean_10, eX4_mean_12, eX4_mean_15, eX4_mean_16, eX4_mean_17, eX4_mean_20, eX4_mean_23, eX4_mean_24, eX4_mean_25, eX4_mean_28, eX4_mean_31, eX4_mean_32, eX4_mean_35, eX4_mean_38, eX4_mean_39, eX4_mean_40, eX4_mean_41, eX4_mean_42, eX4_mean_43, eX4_mean_46, evb_some, evm_some, evc_some, evc_none, gd, if_true, if_false, eq_self, and_self, and_true, true_and, ne_eq, not_false_eq_true, or_true, true_or, cf0_0, cf0_1, cf0_2, cf0_3, cf0_4, cf0_5, cf0_6, cf23_0, cf23_1, cf23_2, cf23_3, cf48_0, cf48_1, cf50_0, cf50_1, cg0, cg23, cg48, cg50, cg1, cg12, cg24, cg35, Int.reduceEq, Int.reduceLT, Int.reduceLE, ↓reduceIte, q1_0, q1_1, q1_2, q1_3, q1_4, q1_5, q1_6, q1_7, q1_8, q1_9, q1_10, q1_11, q1_12, q12_0, q12_1, q12_2, q12_3, q12_4, q12_5, q12_6, q12_7, q12_8, q12_9, q12_10, q12_11, q12_12, q24_0, q24_1, q24_2, q24_3, q24_4, q24_5, q24_6, q24_7, q24_8, q24_9, q24_10, q24_11, q24_12, q35_0, q35_1, q35_2, q35_3, q35_4, q35_5, q35_6, q35_7, q35_8, q35_9, q35_10, q35_11, q35_12, c1, c2, n_hatesTogether hL, hP, hs2, e, T4_partOf (show s < 4611686018427387904 by omega) hb.2 hb.1]) (fun M => by simp only [eX5_mean_0, eX5_mean_1, eX5_mean_2, eX5_mean_3, eX5_mean_6, eX5_mean_9, eX5_mean_10, eX5_mean_12, eX5_mean_15, eX5_mean_16, eX5_mean_17, eX5_mean_20, eX5_mean_21, eX5_mean_24, eX5_mean_25, eX5_mean_26, eX5_mean_29, eX5_mean_30, eX5_mean_33, eX5_mean_34, eX5_mean_35, eX5_mean_38, eX5_mean_39, eX5_mean_42, eX5_mean_43, eX5_mean_44, eX5_mean_45, eX5_mean_46, eX5_mean_47, eX5_mean_50, evb_some, evm_some, evc_some, evc_none, gd, if_true, if_false, eq_self, and_self, and_true, true_and, ne_eq, not_false_eq_true, or_true, true_or, mg, mf0, mf1, mf2, mf3, mf4, mf5, mf6, mf7, mf8, mf9, mf10, mf11, mf12, mf13, mf14, mf15, mf16, mf17, mf18, mf19, mf20, mf21, mf22, mf23, mf24, mf25, mf26, mf27, ma54, ma55, ma56, ma57, ma58, ma59, ma60, ma61, ma62, ma63, ma64, ma65, ma66, ma67, ma68, ma69, ma70, ma71, Int.reduceEq, Int.reduceLT, Int.reduceLE, ↓reduceIte, T5_isIn, c3, hP, show ¬ (P : Int) < 2 by omega, T5_allHate hL, hs2, e, T5_partOf (show P * (P - 1) < 4611686018427387904 by omega) hb.1])
/-! SNOW -/
/-- one day under a sky -/
def skF (u k j : Nat) (s : Nat × ST) : Nat × ST := if k / 2 ^ j % 2 = 1 then (s.1, pday true s.2) else (s.1 * (u - 1), pday false s.2)
def skS (d : ST) (e u k : Nat) : Nat × ST := itr (skF u k) e 0 (1, d)
/-- those runs that bring it -/
def skR (d : ST) (c e u : Nat) (k : Nat) (s : Nat) : Nat := if ((skS d e u k).2.2 8).getD c 0 = 2 then s + (skS d e u k).1 else s
theorem shl_tab : ∀ k : Fin 8, shl32 1 (k.val : Int) = ((2 ^ k.val : Nat) : Int) ∧ 2 ^ k.val ≤ 128 := by decide +kernel
theorem sk_inv (h : DW d) {u k : Nat} (hu : 2 ≤ u ∧ u ≤ 20) : ∀ (m j : Nat) (s : Nat × ST), j + m ≤ 7 → (DW s.2 ∧ s.2.1 1 = d.1 1 ∧ s.1 ≤ 20 ^ j) → (DW (itr (skF u k) m j s).2 ∧ (itr (skF u k) m j s).2.1 1 = d.1 1 ∧ (itr (skF u k) m j s).1 ≤ 20 ^ (j + m))
  | 0, j, s, hj, hs => hs
  | m + 1, j, s, hj, hs => by
    have ih := sk_inv h hu (k := k) m (j + 1) (skF u k j s) (by omega) (by
      unfold skF
      have hp : (20 : Nat) ^ (j + 1) = 20 ^ j * 20 := Nat.pow_succ ..
      split
      · refine ⟨(pday_ok hs.1 true).1, by rw [(pday_ok hs.1 true).2.2.1]; exact hs.2.1, ?_⟩
        dsimp only
        have := hs.2.2
        omega
      · refine ⟨(pday_ok hs.1 false).1, by rw [(pday_ok hs.1 false).2.2.1]; exact hs.2.1, ?_⟩
        dsimp only
        rw [hp]
        exact Nat.mul_le_mul hs.2.2 (by omega))
    rw [show j + (m + 1) = j + 1 + m by omega]
    exact ih
theorem p20 {j : Nat} (h : j ≤ 7) : (20 : Nat) ^ j ≤ 1280000000 := by
  have h1 : (20 : Nat) ^ j ≤ 20 ^ 7 := Nat.pow_le_pow_right (by decide) h
  rw [show (20 : Nat) ^ 7 = 1280000000 by decide] at h1
  exact h1
theorem sk_b (h : DW d) {e u k : Nat} (hu : 2 ≤ u ∧ u ≤ 20) (he : e ≤ 7) : DW (skS d e u k).2 ∧ (skS d e u k).2.1 1 = d.1 1 ∧ (skS d e u k).1 ≤ 1280000000 := by
  have h1 := sk_inv h hu (k := k) e 0 (1, d) (by omega) ⟨h, rfl, Nat.le_refl _⟩
  have h2 := p20 (show 0 + e ≤ 7 by omega)
  exact ⟨h1.1, h1.2.1, Nat.le_trans h1.2.2 h2⟩
theorem skR_b (h : DW d) {c e u : Nat} (hu : 2 ≤ u ∧ u ≤ 20) (he : e ≤ 7) (k s : Nat) : skR d c e u k s ≤ s + 1280000000 := by
  have h1 := (sk_b h hu he (k := k)).2.2
  unfold skR
  split <;> omega
theorem w64_mul1 {a : Nat} (h : a < 4611686018427387904) : w64 ((a : Int) * 1) = (a : Int) := by rw [Int.mul_one]; exact w64_n h
theorem w64_mulu {a u : Nat} (ha : a ≤ 1280000000) (hu : 2 ≤ u ∧ u ≤ 20) : w64 ((a : Int) * w32 ((u : Int) - 1)) = ((a * (u - 1) : Nat) : Int) := by
  have e : w32 ((u : Int) - 1) = ((u - 1 : Nat) : Int) := by rw [w32_id (by omega) (by omega)]; omega
  have h1 : a * (u - 1) ≤ 1280000000 * 20 := Nat.mul_le_mul ha (by omega)
  rw [e, ← Int.natCast_mul, w64_n (by omega)]
theorem T3_broughtOfAll (h : DW n) (hmi : DL mi) {c e u : Nat} (hc : (c : Int) < n.1 1) (he : e ≤ 7) (hu : 2 ≤ u ∧ u ≤ 20) : ∃ d', DL d' ∧ ev X m_X3_broughtOfAll 0 [vR 23, vR 1, vI (c : Int), vI (e : Int), vI (u : Int), vS, vS, vS, vS, vS, vS, vS] [] (cpt mem n t mi la g) = some (some (vL ((itr (skR n c e u) (2 ^ e) 0 0 : Nat) : Int)), cpt mem n t d' la g) := by
  have hL := h.1
  have h8 := h.2.2.1.2
  obtain ⟨s1, s2⟩ := shl_tab ⟨e, by omega⟩
  dsimp only at s1 s2
  have inn : ∀ (k : Nat) (rr : AV) (z : AV), k < 128 → ∀ (m j : Nat) (s : Nat × ST) (z2 : AV), j + m = e → DW s.2 → s.2.1 1 = n.1 1 → s.1 ≤ 20 ^ j → ∃ z3, ev X m_X3_broughtOfAll 28 [vR 23, vR 1, vI (c : Int), vI (e : Int), vI (u : Int), rr, vS, vI (k : Int), vL ((s.1 : Nat) : Int), vS, vI (j : Int), z2] [] (cpt mem n t s.2 la g) = ev X m_X3_broughtOfAll 86 [vR 23, vR 1, vI (c : Int), vI (e : Int), vI (u : Int), rr, vS, vI (k : Int), vL (((itr (skF u k) m j s).1 : Nat) : Int), vS, vI (e : Int), z3] [] (cpt mem n t (itr (skF u k) m j s).2 la g) := by
    intro k rr z hk m
    induction m with
    | zero =>
      intro j s z2 hj hd hd1 hs
      have c1 : ¬ (j : Int) < (e : Int) := by omega
      refine ⟨z2, ?_⟩
      rw [eX3_broughtOfAll_28, show (j : Int) = (e : Int) by omega]
      simp only [eX3_broughtOfAll_30, eX3_broughtOfAll_31, eX3_broughtOfAll_34, eX3_broughtOfAll_36, eX3_broughtOfAll_38, eX3_broughtOfAll_39, eX3_broughtOfAll_40, eX3_broughtOfAll_41, eX3_broughtOfAll_42, eX3_broughtOfAll_45, eX3_broughtOfAll_46, eX3_broughtOfAll_49, eX3_broughtOfAll_50, eX3_broughtOfAll_52, eX3_broughtOfAll_54, eX3_broughtOfAll_56, eX3_broughtOfAll_59, eX3_broughtOfAll_60, eX3_broughtOfAll_63, eX3_broughtOfAll_65, eX3_broughtOfAll_66, eX3_broughtOfAll_67, eX3_broughtOfAll_68, eX3_broughtOfAll_69, eX3_broughtOfAll_71, eX3_broughtOfAll_72, eX3_broughtOfAll_75, eX3_broughtOfAll_77, eX3_broughtOfAll_80, eX3_broughtOfAll_83, evb_some, evm_some, evc_some, evc_none, gd, if_true, if_false, eq_self, and_self, and_true, true_and, ne_eq, not_false_eq_true, or_true, true_or, cf0_0, cf0_1, cf0_2, cf0_3, cf0_4, cf0_5, cf0_6, cf23_0, cf23_1, cf23_2, cf23_3, cf48_0, cf48_1, cf50_0, cf50_1, cg0, cg23, cg48, cg50, cg1, cg12, cg24, cg35, Int.reduceEq, Int.reduceLT, Int.reduceLE, ↓reduceIte, show ¬ (e : Int) < (e : Int) by omega, itr]
    | succ m ih =>
      intro j s z2 hj hd hd1 hs
      have c1 : (j : Int) < (e : Int) := by omega
      have ht := has_tab ⟨k, hk⟩ ⟨j, by omega⟩
      dsimp only at ht
      have hb20 := p20 (show j ≤ 7 by omega)
      have hp : (20 : Nat) ^ (j + 1) = 20 ^ j * 20 := Nat.pow_succ ..
      by_cases q : k / 2 ^ j % 2 = 1
      · have q2 : ((k / 2 ^ j % 2 : Nat) : Int) = 1 := by omega
        have hpd := m_passDay (X := X) (mem := mem) (n := n) (t := t) (la := la) (g := g) hd true
        simp only [if_true] at hpd
        have hsk : skF u k j s = (s.1, pday true s.2) := by unfold skF; rw [if_pos q]
        obtain ⟨z3, hz⟩ := ih (j + 1) (s.1, pday true s.2) (vI 1) (by omega) (pday_ok hd true).1 (by dsimp only; rw [(pday_ok hd true).2.2.1]; exact hd1) (by dsimp only; omega)
        refine ⟨z3, ?_⟩
        rw [eX3_broughtOfAll_28]
        simp only [eX3_broughtOfAll_30, eX3_broughtOfAll_31, eX3_broughtOfAll_34, eX3_broughtOfAll_36, eX3_broughtOfAll_38, eX3_broughtOfAll_39, eX3_broughtOfAll_40, eX3_broughtOfAll_41, eX3_broughtOfAll_42, eX3_broughtOfAll_45, eX3_broughtOfAll_46, eX3_broughtOfAll_49, eX3_broughtOfAll_50, eX3_broughtOfAll_52, eX3_broughtOfAll_54, eX3_broughtOfAll_56, eX3_broughtOfAll_59, eX3_broughtOfAll_60, eX3_broughtOfAll_63, eX3_broughtOfAll_65, eX3_broughtOfAll_66, eX3_broughtOfAll_67, eX3_broughtOfAll_68, eX3_broughtOfAll_69, eX3_broughtOfAll_71, eX3_broughtOfAll_72, eX3_broughtOfAll_75, eX3_broughtOfAll_77, eX3_broughtOfAll_80, eX3_broughtOfAll_83, evb_some, evm_some, evc_some, evc_none, gd, if_true, if_false, eq_self, and_self, and_true, true_and, ne_eq, not_false_eq_true, or_true, true_or, cf0_0, cf0_1, cf0_2, cf0_3, cf0_4, cf0_5, cf0_6, cf23_0, cf23_1, cf23_2, cf23_3, cf48_0, cf48_1, cf50_0, cf50_1, cg0, cg23, cg48, cg50, cg1, cg12, cg24, cg35, Int.reduceEq, Int.reduceLT, Int.reduceLE, ↓reduceIte, c1, ht, q2, hpd, itr, hsk, w64_mul1 (show s.1 < 4611686018427387904 by omega), w32_k1 (show j < 2147483647 by omega)]
        exact hz
      · have q2 : ¬ ((k / 2 ^ j % 2 : Nat) : Int) = 1 := by omega
        have hpd := m_passDay (X := X) (mem := mem) (n := n) (t := t) (la := la) (g := g) hd false
        simp only [Bool.false_eq_true, if_false] at hpd
        have hsk : skF u k j s = (s.1 * (u - 1), pday false s.2) := by unfold skF; rw [if_neg q]
        have hmu : s.1 * (u - 1) ≤ 20 ^ j * 20 := Nat.mul_le_mul hs (by omega)
        obtain ⟨z3, hz⟩ := ih (j + 1) (s.1 * (u - 1), pday false s.2) (vI 0) (by omega) (pday_ok hd false).1 (by dsimp only; rw [(pday_ok hd false).2.2.1]; exact hd1) (by dsimp only; omega)
        refine ⟨z3, ?_⟩
        rw [eX3_broughtOfAll_28]
        simp only [eX3_broughtOfAll_30, eX3_broughtOfAll_31, eX3_broughtOfAll_34, eX3_broughtOfAll_36, eX3_broughtOfAll_38, eX3_broughtOfAll_39, eX3_broughtOfAll_40, eX3_broughtOfAll_41, eX3_broughtOfAll_42, eX3_broughtOfAll_45, eX3_broughtOfAll_46, eX3_broughtOfAll_49, eX3_broughtOfAll_50, eX3_broughtOfAll_52, eX3_broughtOfAll_54, eX3_broughtOfAll_56, eX3_broughtOfAll_59, eX3_broughtOfAll_60, eX3_broughtOfAll_63, eX3_broughtOfAll_65, eX3_broughtOfAll_66, eX3_broughtOfAll_67, eX3_broughtOfAll_68, eX3_broughtOfAll_69, eX3_broughtOfAll_71, eX3_broughtOfAll_72, eX3_broughtOfAll_75, eX3_broughtOfAll_77, eX3_broughtOfAll_80, eX3_broughtOfAll_83, evb_some, evm_some, evc_some, evc_none, gd, if_true, if_false, eq_self, and_self, and_true, true_and, ne_eq, not_false_eq_true, or_true, true_or, cf0_0, cf0_1, cf0_2, cf0_3, cf0_4, cf0_5, cf0_6, cf23_0, cf23_1, cf23_2, cf23_3, cf48_0, cf48_1, cf50_0, cf50_1, cg0, cg23, cg48, cg50, cg1, cg12, cg24, cg35, Int.reduceEq, Int.reduceLT, Int.reduceLE, ↓reduceIte, c1, ht, q2, hpd, itr, hsk, w64_mulu (show s.1 ≤ 1280000000 by omega) hu, w32_k1 (show j < 2147483647 by omega)]
        exact hz
  have key : ∀ (m k r : Nat) (mi : ST) (z1 z2 z3 z4 : AV), DL mi → k + m = 2 ^ e → r ≤ k * 1280000000 → ∃ d', DL d' ∧ ev X m_X3_broughtOfAll 6 [vR 23, vR 1, vI (c : Int), vI (e : Int), vI (u : Int), vL (r : Int), vS, vI (k : Int), z1, z2, z3, z4] [] (cpt mem n t mi la g) = some (some (vL ((itr (skR n c e u) m k r : Nat) : Int)), cpt mem n t d' la g) := by
    intro m
    induction m with
    | zero =>
      intro k r mi z1 z2 z3 z4 hmi hk hr
      have c1 : ¬ (k : Int) < ((2 ^ e : Nat) : Int) := by omega
      refine ⟨mi, hmi, ?_⟩
      rw [eX3_broughtOfAll_6]
      simp only [eX3_broughtOfAll_0, eX3_broughtOfAll_1, eX3_broughtOfAll_3, eX3_broughtOfAll_4, eX3_broughtOfAll_8, eX3_broughtOfAll_9, eX3_broughtOfAll_10, eX3_broughtOfAll_11, eX3_broughtOfAll_14, eX3_broughtOfAll_15, eX3_broughtOfAll_18, eX3_broughtOfAll_19, eX3_broughtOfAll_22, eX3_broughtOfAll_23, eX3_broughtOfAll_25, eX3_broughtOfAll_26, eX3_broughtOfAll_30, eX3_broughtOfAll_31, eX3_broughtOfAll_34, eX3_broughtOfAll_36, eX3_broughtOfAll_38, eX3_broughtOfAll_39, eX3_broughtOfAll_40, eX3_broughtOfAll_41, eX3_broughtOfAll_42, eX3_broughtOfAll_45, eX3_broughtOfAll_46, eX3_broughtOfAll_49, eX3_broughtOfAll_50, eX3_broughtOfAll_52, eX3_broughtOfAll_54, eX3_broughtOfAll_56, eX3_broughtOfAll_59, eX3_broughtOfAll_60, eX3_broughtOfAll_63, eX3_broughtOfAll_65, eX3_broughtOfAll_66, eX3_broughtOfAll_67, eX3_broughtOfAll_68, eX3_broughtOfAll_69, eX3_broughtOfAll_71, eX3_broughtOfAll_72, eX3_broughtOfAll_75, eX3_broughtOfAll_77, eX3_broughtOfAll_80, eX3_broughtOfAll_83, eX3_broughtOfAll_86, eX3_broughtOfAll_87, eX3_broughtOfAll_90, eX3_broughtOfAll_91, eX3_broughtOfAll_94, eX3_broughtOfAll_95, eX3_broughtOfAll_98, eX3_broughtOfAll_100, eX3_broughtOfAll_102, eX3_broughtOfAll_103, eX3_broughtOfAll_105, eX3_broughtOfAll_108, eX3_broughtOfAll_111, eX3_broughtOfAll_113, evb_some, evm_some, evc_some, evc_none, gd, if_true, if_false, eq_self, and_self, and_true, true_and, ne_eq, not_false_eq_true, or_true, true_or, cf0_0, cf0_1, cf0_2, cf0_3, cf0_4, cf0_5, cf0_6, cf23_0, cf23_1, cf23_2, cf23_3, cf48_0, cf48_1, cf50_0, cf50_1, cg0, cg23, cg48, cg50, cg1, cg12, cg24, cg35, Int.reduceEq, Int.reduceLT, Int.reduceLE, ↓reduceIte, s1, c1, itr]
    | succ m ih =>
      intro k r mi z1 z2 z3 z4 hmi hk hr
      have c1 : (k : Int) < ((2 ^ e : Nat) : Int) := by omega
      obtain ⟨z5, hz⟩ := inn k (vL (r : Int)) vS (by omega) e 0 (1, n) z4 (by omega) h rfl (Nat.le_refl _)
      rw [show itr (skF u k) e 0 (1, n) = skS n e u k from rfl] at hz
      have hB := sk_b h hu he (k := k)
      have hst := m_stateOf (X := X) (mem := mem) (n := n) (t := t) (la := la) (g := g) (d := (skS n e u k).2) (c := c) hB.1.1 (by rw [hB.2.1]; exact hc) hB.1.2.2.1.2
      have hr2 := skR_b h hu he (c := c) k r
      obtain ⟨d', h1, h2⟩ := ih (k + 1) (skR n c e u k r) (skS n e u k).2 (vL (((skS n e u k).1 : Nat) : Int)) vS (vI (e : Int)) z5 hB.1.1 (by omega) (by omega)
      refine ⟨d', h1, ?_⟩
      rw [eX3_broughtOfAll_6]
      simp only [eX3_broughtOfAll_8, eX3_broughtOfAll_9, eX3_broughtOfAll_10, eX3_broughtOfAll_11, eX3_broughtOfAll_14, eX3_broughtOfAll_15, eX3_broughtOfAll_18, eX3_broughtOfAll_19, eX3_broughtOfAll_22, eX3_broughtOfAll_23, eX3_broughtOfAll_25, eX3_broughtOfAll_26, evb_some, evm_some, evc_some, evc_none, gd, if_true, if_false, eq_self, and_self, and_true, true_and, ne_eq, not_false_eq_true, or_true, true_or, cf0_0, cf0_1, cf0_2, cf0_3, cf0_4, cf0_5, cf0_6, cf23_0, cf23_1, cf23_2, cf23_3, cf48_0, cf48_1, cf50_0, cf50_1, cg0, cg23, cg48, cg50, cg1, cg12, cg24, cg35, Int.reduceEq, Int.reduceLT, Int.reduceLE, ↓reduceIte, s1, c1, b24_1 hmi hL]
      refine Eq.trans hz ?_
      show _ = some (some (vL ((itr (skR n c e u) m (k + 1) (skR n c e u k r) : Nat) : Int)), _)
      unfold skR at h2 hr2 ⊢
      by_cases q : ((skS n e u k).2.2 8).getD c 0 = 2
      · simp only [if_pos q] at h2 hr2 ⊢
        have e2 : w64 ((r : Int) + (((skS n e u k).1 : Nat) : Int)) = ((r + (skS n e u k).1 : Nat) : Int) := by
          rw [← Int.natCast_add]
          exact w64_n (by omega)
        simp only [eX3_broughtOfAll_86, eX3_broughtOfAll_87, eX3_broughtOfAll_90, eX3_broughtOfAll_91, eX3_broughtOfAll_94, eX3_broughtOfAll_95, eX3_broughtOfAll_98, eX3_broughtOfAll_100, eX3_broughtOfAll_102, eX3_broughtOfAll_103, eX3_broughtOfAll_105, eX3_broughtOfAll_108, eX3_broughtOfAll_111, eX3_broughtOfAll_113, evb_some, evm_some, evc_some, evc_none, gd, if_true, if_false, eq_self, and_self, and_true, true_and, ne_eq, not_false_eq_true, or_true, true_or, cf0_0, cf0_1, cf0_2, cf0_3, cf0_4, cf0_5, cf0_6, cf23_0, cf23_1, cf23_2, cf23_3, cf48_0, cf48_1, cf50_0, cf50_1, cg0, cg23, cg48, cg50, cg1, cg12, cg24, cg35, Int.reduceEq, Int.reduceLT, Int.reduceLE, ↓reduceIte, hst, q, e2, w32_k1 (show k < 2147483647 by omega)]
        exact h2
      · simp only [if_neg q] at h2 hr2 ⊢
        simp only [eX3_broughtOfAll_86, eX3_broughtOfAll_87, eX3_broughtOfAll_90, eX3_broughtOfAll_91, eX3_broughtOfAll_94, eX3_broughtOfAll_95, eX3_broughtOfAll_98, eX3_broughtOfAll_100, eX3_broughtOfAll_102, eX3_broughtOfAll_103, eX3_broughtOfAll_105, eX3_broughtOfAll_108, eX3_broughtOfAll_111, eX3_broughtOfAll_113, evb_some, evm_some, evc_some, evc_none, gd, if_true, if_false, eq_self, and_self, and_true, true_and, ne_eq, not_false_eq_true, or_true, true_or, cf0_0, cf0_1, cf0_2, cf0_3, cf0_4, cf0_5, cf0_6, cf23_0, cf23_1, cf23_2, cf23_3, cf48_0, cf48_1, cf50_0, cf50_1, cg0, cg23, cg48, cg50, cg1, cg12, cg24, cg35, Int.reduceEq, Int.reduceLT, Int.reduceLE, ↓reduceIte, hst, q, w32_k1 (show k < 2147483647 by omega)]
        exact h2
  obtain ⟨d', h1, h2⟩ := key (2 ^ e) 0 0 mi vS vS vS vS hmi (by omega) (by omega)
  refine ⟨d', h1, Eq.trans ?_ h2⟩
  simp only [eX3_broughtOfAll_0, eX3_broughtOfAll_1, eX3_broughtOfAll_3, eX3_broughtOfAll_4]
  rfl
/-- the t to the n-th -/
theorem pow_b {u e : Nat} (hu : 2 ≤ u ∧ u ≤ 20) (he : e ≤ 7) : 1 ≤ u ^ e ∧ u ^ e ≤ 1280000000 := by
  have h1 : u ^ e ≤ 20 ^ e := Nat.pow_le_pow_left hu.2 e
  exact ⟨Nat.pow_pos (by omega), Nat.le_trans h1 (p20 he)⟩
theorem runs_b (h : DW d) {c e u : Nat} (hu : 2 ≤ u ∧ u ≤ 20) (he : e ≤ 7) : itr (skR d c e u) (2 ^ e) 0 0 ≤ 128 * 1280000000 := by
  have h1 := itr_inv (f := skR d c e u) (fun k s => s ≤ k * 1280000000) (2 ^ e) (fun k s hk hi => by have := skR_b h hu he (c := c) k s; omega) (2 ^ e) 0 0 (by omega) (by omega)
  have h2 : 2 ^ e ≤ 128 := (shl_tab ⟨e, by omega⟩).2
  have h3 : 2 ^ e * 1280000000 ≤ 128 * 1280000000 := Nat.mul_le_mul_right _ h2
  exact Nat.le_trans h1 h3
theorem T4_snow (h : DW n) (hmi : DL mi) {c e u : Nat} (hc : (c : Int) < n.1 1) (he : e ≤ 7) (hu : 2 ≤ u ∧ u ≤ 20) {w : Int} (hw : ¬ w < 0 ∧ ¬ 1 < w) : ∃ d', DL d' ∧ ev X m_X4_snow 0 [vR 0, vI (c : Int), vI (e : Int), vI (u : Int), vI w, vS, vS, vS] [] (cpt mem n t mi la g) = some (some (vL (prt (itr (skR n c e u) (2 ^ e) 0 0) (u ^ e) w)), cpt mem n t d' la g) := by
  obtain ⟨d', h1, h2⟩ := T3_broughtOfAll (X := X) (mem := mem) (t := t) (la := la) (g := g) h hmi hc he hu
  refine ⟨d', h1, ?_⟩
  have hpb := pow_b hu he
  have hrb := runs_b h hu he (c := c)
  have key : ∀ (m k : Nat), k + m = e → ev X m_X4_snow 76 [vR 0, vI (c : Int), vI (e : Int), vI (u : Int), vI w, vL ((u ^ k : Nat) : Int), vS, vI (k : Int)] [] (cpt mem n t mi la g) = some (some (vL (prt (itr (skR n c e u) (2 ^ e) 0 0) (u ^ e) w)), cpt mem n t d' la g) := by
    intro m
    induction m with
    | zero =>
      intro k hk
      have c1 : ¬ (k : Int) < (e : Int) := by omega
      rw [eX4_snow_76, show k = e by omega]
      simp only [eX4_snow_0, eX4_snow_1, eX4_snow_4, eX4_snow_5, eX4_snow_8, eX4_snow_11, eX4_snow_12, eX4_snow_13, eX4_snow_16, eX4_snow_17, eX4_snow_18, eX4_snow_21, eX4_snow_22, eX4_snow_23, eX4_snow_26, eX4_snow_27, eX4_snow_29, eX4_snow_32, eX4_snow_33, eX4_snow_34, eX4_snow_36, eX4_snow_39, eX4_snow_40, eX4_snow_42, eX4_snow_45, eX4_snow_46, eX4_snow_48, eX4_snow_51, eX4_snow_52, eX4_snow_54, eX4_snow_57, eX4_snow_59, eX4_snow_60, eX4_snow_63, eX4_snow_64, eX4_snow_66, eX4_snow_69, eX4_snow_70, eX4_snow_71, eX4_snow_73, eX4_snow_74, eX4_snow_78, eX4_snow_79, eX4_snow_82, eX4_snow_84, eX4_snow_85, eX4_snow_86, eX4_snow_87, eX4_snow_89, eX4_snow_92, eX4_snow_95, eX4_snow_96, eX4_snow_99, eX4_snow_100, eX4_snow_103, eX4_snow_104, eX4_snow_105, eX4_snow_106, eX4_snow_109, eX4_snow_111, eX4_snow_113, eX4_snow_116, evb_some, evm_some, evc_some, evc_none, gd, if_true, if_false, eq_self, and_self, and_true, true_and, ne_eq, not_false_eq_true, or_true, true_or, cf0_0, cf0_1, cf0_2, cf0_3, cf0_4, cf0_5, cf0_6, cf23_0, cf23_1, cf23_2, cf23_3, cf48_0, cf48_1, cf50_0, cf50_1, cg0, cg23, cg48, cg50, cg1, cg12, cg24, cg35, Int.reduceEq, Int.reduceLT, Int.reduceLE, ↓reduceIte, show ¬ (e : Int) < (e : Int) by omega, h2, T4_partOf (show itr (skR n c e u) (2 ^ e) 0 0 < 4611686018427387904 by omega) (show u ^ e < 1125899906842624 by omega) hpb.1]
    | succ m ih =>
      intro k hk
      have c1 : (k : Int) < (e : Int) := by omega
      have hp := pow_b (u := u) hu (show k + 1 ≤ 7 by omega)
      have e2 : w64 (((u ^ k : Nat) : Int) * (u : Int)) = ((u ^ (k + 1) : Nat) : Int) := by
        rw [← Int.natCast_mul, Nat.pow_succ] at *
        exact w64_n (by omega)
      rw [eX4_snow_76]
      simp only [eX4_snow_0, eX4_snow_1, eX4_snow_4, eX4_snow_5, eX4_snow_8, eX4_snow_11, eX4_snow_12, eX4_snow_13, eX4_snow_16, eX4_snow_17, eX4_snow_18, eX4_snow_21, eX4_snow_22, eX4_snow_23, eX4_snow_26, eX4_snow_27, eX4_snow_29, eX4_snow_32, eX4_snow_33, eX4_snow_34, eX4_snow_36, eX4_snow_39, eX4_snow_40, eX4_snow_42, eX4_snow_45, eX4_snow_46, eX4_snow_48, eX4_snow_51, eX4_snow_52, eX4_snow_54, eX4_snow_57, eX4_snow_59, eX4_snow_60, eX4_snow_63, eX4_snow_64, eX4_snow_66, eX4_snow_69, eX4_snow_70, eX4_snow_71, eX4_snow_73, eX4_snow_74, eX4_snow_78, eX4_snow_79, eX4_snow_82, eX4_snow_84, eX4_snow_85, eX4_snow_86, eX4_snow_87, eX4_snow_89, eX4_snow_92, eX4_snow_95, eX4_snow_96, eX4_snow_99, eX4_snow_100, eX4_snow_103, eX4_snow_104, eX4_snow_105, eX4_snow_106, eX4_snow_109, eX4_snow_111, eX4_snow_113, eX4_snow_116, evb_some, evm_some, evc_some, evc_none, gd, if_true, if_false, eq_self, and_self, and_true, true_and, ne_eq, not_false_eq_true, or_true, true_or, cf0_0, cf0_1, cf0_2, cf0_3, cf0_4, cf0_5, cf0_6, cf23_0, cf23_1, cf23_2, cf23_3, cf48_0, cf48_1, cf50_0, cf50_1, cg0, cg23, cg48, cg50, cg1, cg12, cg24, cg35, Int.reduceEq, Int.reduceLT, Int.reduceLE, ↓reduceIte, c1, e2, w32_k1 (show k < 2147483647 by omega)]
      exact ih (k + 1) (by omega)
  refine Eq.trans ?_ (key e 0 (by omega))
  have u1 : ¬ (u : Int) < 2 := by omega
  have u2 : ¬ (20 : Int) < (u : Int) := by omega
  have e1 : ¬ (e : Int) < 0 := by omega
  have e2 : ¬ (7 : Int) < (e : Int) := by omega
  simp only [eX4_snow_0, eX4_snow_1, eX4_snow_4, eX4_snow_5, eX4_snow_8, eX4_snow_11, eX4_snow_12, eX4_snow_13, eX4_snow_16, eX4_snow_17, eX4_snow_18, eX4_snow_21, eX4_snow_22, eX4_snow_23, eX4_snow_26, eX4_snow_27, eX4_snow_29, eX4_snow_32, eX4_snow_33, eX4_snow_34, eX4_snow_36, eX4_snow_39, eX4_snow_40, eX4_snow_42, eX4_snow_45, eX4_snow_46, eX4_snow_48, eX4_snow_51, eX4_snow_52, eX4_snow_54, eX4_snow_57, eX4_snow_59, eX4_snow_60, eX4_snow_63, eX4_snow_64, eX4_snow_66, eX4_snow_69, eX4_snow_70, eX4_snow_71, eX4_snow_73, eX4_snow_74, evb_some, evm_some, evc_some, evc_none, gd, if_true, if_false, eq_self, and_self, and_true, true_and, ne_eq, not_false_eq_true, or_true, true_or, cf0_0, cf0_1, cf0_2, cf0_3, cf0_4, cf0_5, cf0_6, cf23_0, cf23_1, cf23_2, cf23_3, cf48_0, cf48_1, cf50_0, cf50_1, cg0, cg23, cg48, cg50, cg1, cg12, cg24, cg35, Int.reduceEq, Int.reduceLT, Int.reduceLE, ↓reduceIte, n_hasParcelY (show 0 ≤ (c : Int) ∧ (c : Int) < n.1 1 by omega), u1, u2, e1, e2, hw.1, hw.2, Nat.pow_zero]
  rfl
theorem T5_snow (h : DW d) (hl : (g.2 5).length = 309) {c e u : Nat} (hc : (c : Int) < d.1 1) (he : e ≤ 7) (hu : 2 ≤ u ∧ u ≤ 20) {w : Int} (hw : 0 ≤ w ∧ w ≤ 1) : ∃ g', GQ g g' 206 ∧ ev X m_X5_snow 0 [vR 53, vI (c : Int), vI (e : Int), vI (u : Int), vI w, vS, vS, vS, vS, vS, vS, vS, vS, vS] [] (mpt mem g d) = some (some (vL (prt (itr (skR d c e u) (2 ^ e) 0 0) (u ^ e) w)), mpt mem g' d) := by
  have hL := h.1
  have h8 := h.2.2.1.2
  have hpb := pow_b hu he
  have hrb := runs_b h hu he (c := c)
  have c8 : c < 8 := by omega
  obtain ⟨s1, s2⟩ := shl_tab ⟨e, by omega⟩
  dsimp only at s1 s2
  have inn : ∀ (g : ST) (k : Nat) (rr dd : AV), k < 128 → ∀ (m j : Nat) (s : Nat × ST), j + m = e → DW s.2 → s.2.1 1 = d.1 1 → s.1 ≤ 20 ^ j → ev X m_X5_snow 122 [vR 53, vI (c : Int), vI (e : Int), vI (u : Int), vI w, vI 0, rr, vS, dd, vS, vI (k : Int), vL ((s.1 : Nat) : Int), vS, vI (j : Int)] [] (mpt mem g s.2) = ev X m_X5_snow 168 [vR 53, vI (c : Int), vI (e : Int), vI (u : Int), vI w, vI 0, rr, vS, dd, vS, vI (k : Int), vL (((itr (skF u k) m j s).1 : Nat) : Int), vS, vI (e : Int)] [] (mpt mem g (itr (skF u k) m j s).2) := by
    intro g k rr dd hk m
    induction m with
    | zero =>
      intro j s hj hd hd1 hs
      rw [eX5_snow_122, show (j : Int) = (e : Int) by omega]
      simp only [eX5_snow_124, eX5_snow_125, eX5_snow_128, eX5_snow_130, eX5_snow_132, eX5_snow_134, eX5_snow_137, eX5_snow_140, eX5_snow_141, eX5_snow_144, eX5_snow_145, eX5_snow_146, eX5_snow_147, eX5_snow_148, eX5_snow_149, eX5_snow_151, eX5_snow_152, eX5_snow_154, eX5_snow_156, eX5_snow_159, eX5_snow_162, eX5_snow_165, evb_some, evm_some, evc_some, evc_none, gd, if_true, if_false, eq_self, and_self, and_true, true_and, ne_eq, not_false_eq_true, or_true, true_or, mg, mf0, mf1, mf2, mf3, mf4, mf5, mf6, mf7, mf8, mf9, mf10, mf11, mf12, mf13, mf14, mf15, mf16, mf17, mf18, mf19, mf20, mf21, mf22, mf23, mf24, mf25, mf26, mf27, ma54, ma55, ma56, ma57, ma58, ma59, ma60, ma61, ma62, ma63, ma64, ma65, ma66, ma67, ma68, ma69, ma70, ma71, Int.reduceEq, Int.reduceLT, Int.reduceLE, ↓reduceIte, show ¬ (e : Int) < (e : Int) by omega, itr]
    | succ m ih =>
      intro j s hj hd hd1 hs
      have c1 : (j : Int) < (e : Int) := by omega
      have ht := has_tab ⟨k, hk⟩ ⟨j, by omega⟩
      dsimp only at ht
      have hb20 := p20 (show j ≤ 7 by omega)
      have hp : (20 : Nat) ^ (j + 1) = 20 ^ j * 20 := Nat.pow_succ ..
      by_cases q : k / 2 ^ j % 2 = 1
      · have q2 : ((k / 2 ^ j % 2 : Nat) : Int) = 1 := by omega
        have hpd := T5_goesDay (X := X) (mem := mem) (g := g) (y1 := vS) hd true
        simp only [if_true] at hpd
        have hsk : skF u k j s = (s.1, pday true s.2) := by unfold skF; rw [if_pos q]
        have hz := ih (j + 1) (s.1, pday true s.2) (by omega) (pday_ok hd true).1 (by dsimp only; rw [(pday_ok hd true).2.2.1]; exact hd1) (by dsimp only; omega)
        rw [eX5_snow_122]
        simp only [eX5_snow_124, eX5_snow_125, eX5_snow_128, eX5_snow_130, eX5_snow_132, eX5_snow_134, eX5_snow_137, eX5_snow_140, eX5_snow_141, eX5_snow_144, eX5_snow_145, eX5_snow_146, eX5_snow_147, eX5_snow_148, eX5_snow_149, eX5_snow_151, eX5_snow_152, eX5_snow_154, eX5_snow_156, eX5_snow_159, eX5_snow_162, eX5_snow_165, evb_some, evm_some, evc_some, evc_none, gd, if_true, if_false, eq_self, and_self, and_true, true_and, ne_eq, not_false_eq_true, or_true, true_or, mg, mf0, mf1, mf2, mf3, mf4, mf5, mf6, mf7, mf8, mf9, mf10, mf11, mf12, mf13, mf14, mf15, mf16, mf17, mf18, mf19, mf20, mf21, mf22, mf23, mf24, mf25, mf26, mf27, ma54, ma55, ma56, ma57, ma58, ma59, ma60, ma61, ma62, ma63, ma64, ma65, ma66, ma67, ma68, ma69, ma70, ma71, Int.reduceEq, Int.reduceLT, Int.reduceLE, ↓reduceIte, c1, T5_has, ht, q2, hpd, itr, hsk, w64_mul1 (show s.1 < 4611686018427387904 by omega), w32_k1 (show j < 2147483647 by omega)]
        exact hz
      · have q2 : ¬ ((k / 2 ^ j % 2 : Nat) : Int) = 1 := by omega
        have hpd := T5_goesDay0 (X := X) (mem := mem) (g := g) (y1 := vS) hd
        have hsk : skF u k j s = (s.1 * (u - 1), pday false s.2) := by unfold skF; rw [if_neg q]
        have hmu : s.1 * (u - 1) ≤ 20 ^ j * 20 := Nat.mul_le_mul hs (by omega)
        have hz := ih (j + 1) (s.1 * (u - 1), pday false s.2) (by omega) (pday_ok hd false).1 (by dsimp only; rw [(pday_ok hd false).2.2.1]; exact hd1) (by dsimp only; omega)
        rw [eX5_snow_122]
        simp only [eX5_snow_124, eX5_snow_125, eX5_snow_128, eX5_snow_130, eX5_snow_132, eX5_snow_134, eX5_snow_137, eX5_snow_140, eX5_snow_141, eX5_snow_144, eX5_snow_145, eX5_snow_146, eX5_snow_147, eX5_snow_148, eX5_snow_149, eX5_snow_151, eX5_snow_152, eX5_snow_154, eX5_snow_156, eX5_snow_159, eX5_snow_162, eX5_snow_165, evb_some, evm_some, evc_some, evc_none, gd, if_true, if_false, eq_self, and_self, and_true, true_and, ne_eq, not_false_eq_true, or_true, true_or, mg, mf0, mf1, mf2, mf3, mf4, mf5, mf6, mf7, mf8, mf9, mf10, mf11, mf12, mf13, mf14, mf15, mf16, mf17, mf18, mf19, mf20, mf21, mf22, mf23, mf24, mf25, mf26, mf27, ma54, ma55, ma56, ma57, ma58, ma59, ma60, ma61, ma62, ma63, ma64, ma65, ma66, ma67, ma68, ma69, ma70, ma71, Int.reduceEq, Int.reduceLT, Int.reduceLE, ↓reduceIte, c1, T5_has, ht, q2, hpd, itr, hsk, w64_mulu (show s.1 ≤ 1280000000 by omega) hu, w32_k1 (show j < 2147483647 by omega)]
        exact hz
  have key : ∀ (m k r : Nat) (g : ST) (z1 z2 z3 : AV), (g.2 5).length = 309 → k + m = 2 ^ e → r ≤ k * 1280000000 → ∃ g', GQ g g' 206 ∧ ev X m_X5_snow 104 [vR 53, vI (c : Int), vI (e : Int), vI (u : Int), vI w, vI 0, vL (r : Int), vS, vL ((u ^ e : Nat) : Int), vS, vI (k : Int), z1, z2, z3] [] (mpt mem g d) = some (some (vL (prt (itr (skR d c e u) m k r) (u ^ e) w)), mpt mem g' d) := by
    intro m
    induction m with
    | zero =>
      intro k r g z1 z2 z3 hl hk hr
      have c1 : ¬ (k : Int) < ((2 ^ e : Nat) : Int) := by omega
      refine ⟨g, GQ_rfl hl, ?_⟩
      rw [eX5_snow_104]
      simp only [eX5_snow_0, eX5_snow_1, eX5_snow_2, eX5_snow_5, eX5_snow_8, eX5_snow_9, eX5_snow_12, eX5_snow_13, eX5_snow_16, eX5_snow_17, eX5_snow_18, eX5_snow_21, eX5_snow_23, eX5_snow_26, eX5_snow_27, eX5_snow_29, eX5_snow_32, eX5_snow_33, eX5_snow_35, eX5_snow_38, eX5_snow_40, eX5_snow_43, eX5_snow_45, eX5_snow_46, eX5_snow_47, eX5_snow_50, eX5_snow_53, eX5_snow_55, eX5_snow_58, eX5_snow_59, eX5_snow_61, eX5_snow_63, eX5_snow_66, eX5_snow_67, eX5_snow_69, eX5_snow_72, eX5_snow_73, eX5_snow_74, eX5_snow_76, eX5_snow_77, eX5_snow_79, eX5_snow_80, eX5_snow_82, eX5_snow_84, eX5_snow_85, eX5_snow_88, eX5_snow_90, eX5_snow_91, eX5_snow_92, eX5_snow_93, eX5_snow_95, eX5_snow_98, eX5_snow_101, eX5_snow_102, eX5_snow_106, eX5_snow_107, eX5_snow_108, eX5_snow_109, eX5_snow_112, eX5_snow_113, eX5_snow_116, eX5_snow_117, eX5_snow_119, eX5_snow_120, eX5_snow_124, eX5_snow_125, eX5_snow_128, eX5_snow_130, eX5_snow_132, eX5_snow_134, eX5_snow_137, eX5_snow_140, eX5_snow_141, eX5_snow_144, eX5_snow_145, eX5_snow_146, eX5_snow_147, eX5_snow_148, eX5_snow_149, eX5_snow_151, eX5_snow_152, eX5_snow_154, eX5_snow_156, eX5_snow_159, eX5_snow_162, eX5_snow_165, eX5_snow_168, eX5_snow_170, eX5_snow_171, eX5_snow_174, eX5_snow_175, eX5_snow_176, eX5_snow_177, eX5_snow_180, eX5_snow_182, eX5_snow_185, eX5_snow_186, eX5_snow_187, eX5_snow_189, eX5_snow_190, eX5_snow_193, eX5_snow_196, eX5_snow_199, eX5_snow_201, eX5_snow_203, eX5_snow_205, eX5_snow_208, evb_some, evm_some, evc_some, evc_none, gd, if_true, if_false, eq_self, and_self, and_true, true_and, ne_eq, not_false_eq_true, or_true, true_or, mg, mf0, mf1, mf2, mf3, mf4, mf5, mf6, mf7, mf8, mf9, mf10, mf11, mf12, mf13, mf14, mf15, mf16, mf17, mf18, mf19, mf20, mf21, mf22, mf23, mf24, mf25, mf26, mf27, ma54, ma55, ma56, ma57, ma58, ma59, ma60, ma61, ma62, ma63, ma64, ma65, ma66, ma67, ma68, ma69, ma70, ma71, Int.reduceEq, Int.reduceLT, Int.reduceLE, ↓reduceIte, s1, c1, itr, T5_partOf (show u ^ e < 4611686018427387904 by omega) hpb.1]
    | succ m ih =>
      intro k r g z1 z2 z3 hl hk hr
      have c1 : (k : Int) < ((2 ^ e : Nat) : Int) := by omega
      have hz := inn (gG g (kA (g.2 5) 206 d) 1 309) k (vL (r : Int)) (vL ((u ^ e : Nat) : Int)) (by omega) e 0 (1, d) (by omega) h rfl (Nat.le_refl _)
      rw [show itr (skF u k) e 0 (1, d) = skS d e u k from rfl] at hz
      have hB := sk_b h hu he (k := k)
      have b8 : ((skS d e u k).2.2 8).length = 8 := hB.1.1.2.2.2.2.2.2.2.1
      have hr2 := skR_b h hu he (c := c) k r
      have hq := GQ_gTh (d := d) hl
      obtain ⟨g', h1, h2⟩ := ih (k + 1) (skR d c e u k r) (gTh g d) (vL (((skS d e u k).1 : Nat) : Int)) vS (vI (e : Int)) hq.2.2.1 (by omega) (by omega)
      refine ⟨g', GQ_trans hq h1, ?_⟩
      rw [eX5_snow_104]
      simp only [eX5_snow_106, eX5_snow_107, eX5_snow_108, eX5_snow_109, eX5_snow_112, eX5_snow_113, eX5_snow_116, eX5_snow_117, eX5_snow_119, eX5_snow_120, evb_some, evm_some, evc_some, evc_none, gd, if_true, if_false, eq_self, and_self, and_true, true_and, ne_eq, not_false_eq_true, or_true, true_or, mg, mf0, mf1, mf2, mf3, mf4, mf5, mf6, mf7, mf8, mf9, mf10, mf11, mf12, mf13, mf14, mf15, mf16, mf17, mf18, mf19, mf20, mf21, mf22, mf23, mf24, mf25, mf26, mf27, ma54, ma55, ma56, ma57, ma58, ma59, ma60, ma61, ma62, ma63, ma64, ma65, ma66, ma67, ma68, ma69, ma70, ma71, Int.reduceEq, Int.reduceLT, Int.reduceLE, ↓reduceIte, s1, c1, T5_thinks hL hl]
      refine Eq.trans hz ?_
      show _ = some (some (vL (prt (itr (skR d c e u) m (k + 1) (skR d c e u k r)) (u ^ e) w)), _)
      unfold skR at h2 hr2 ⊢
      by_cases q : ((skS d e u k).2.2 8).getD c 0 = 2
      · simp only [if_pos q] at h2 hr2 ⊢
        have e2 : w64 ((r : Int) + (((skS d e u k).1 : Nat) : Int)) = ((r + (skS d e u k).1 : Nat) : Int) := by
          rw [← Int.natCast_add]
          exact w64_n (by omega)
        simp only [eX5_snow_168, eX5_snow_170, eX5_snow_171, eX5_snow_174, eX5_snow_175, eX5_snow_176, eX5_snow_177, eX5_snow_180, eX5_snow_182, eX5_snow_185, eX5_snow_186, eX5_snow_187, eX5_snow_189, eX5_snow_190, eX5_snow_193, eX5_snow_196, eX5_snow_199, eX5_snow_201, eX5_snow_203, eX5_snow_205, eX5_snow_208, evb_some, evm_some, evc_some, evc_none, gd, if_true, if_false, eq_self, and_self, and_true, true_and, ne_eq, not_false_eq_true, or_true, true_or, mg, mf0, mf1, mf2, mf3, mf4, mf5, mf6, mf7, mf8, mf9, mf10, mf11, mf12, mf13, mf14, mf15, mf16, mf17, mf18, mf19, mf20, mf21, mf22, mf23, mf24, mf25, mf26, mf27, ma54, ma55, ma56, ma57, ma58, ma59, ma60, ma61, ma62, ma63, ma64, ma65, ma66, ma67, ma68, ma69, ma70, ma71, Int.reduceEq, Int.reduceLT, Int.reduceLE, ↓reduceIte, b8, c8, q, e2, T5_forgets hB.1.1 hL hl, w32_k1 (show k < 2147483647 by omega)]
        exact h2
      · simp only [if_neg q] at h2 hr2 ⊢
        have e2 : w64 ((r : Int) + 0) = (r : Int) := by rw [Int.add_zero]; exact w64_n (by omega)
        simp only [eX5_snow_168, eX5_snow_170, eX5_snow_171, eX5_snow_174, eX5_snow_175, eX5_snow_176, eX5_snow_177, eX5_snow_180, eX5_snow_182, eX5_snow_185, eX5_snow_186, eX5_snow_187, eX5_snow_189, eX5_snow_190, eX5_snow_193, eX5_snow_196, eX5_snow_199, eX5_snow_201, eX5_snow_203, eX5_snow_205, eX5_snow_208, evb_some, evm_some, evc_some, evc_none, gd, if_true, if_false, eq_self, and_self, and_true, true_and, ne_eq, not_false_eq_true, or_true, true_or, mg, mf0, mf1, mf2, mf3, mf4, mf5, mf6, mf7, mf8, mf9, mf10, mf11, mf12, mf13, mf14, mf15, mf16, mf17, mf18, mf19, mf20, mf21, mf22, mf23, mf24, mf25, mf26, mf27, ma54, ma55, ma56, ma57, ma58, ma59, ma60, ma61, ma62, ma63, ma64, ma65, ma66, ma67, ma68, ma69, ma70, ma71, Int.reduceEq, Int.reduceLT, Int.reduceLE, ↓reduceIte, b8, c8, q, e2, T5_forgets hB.1.1 hL hl, w32_k1 (show k < 2147483647 by omega)]
        exact h2
  obtain ⟨g', h1, h2⟩ := key (2 ^ e) 0 0 g vS vS vS hl (by omega) (by omega)
  refine ⟨g', h1, ?_⟩
  have kp : ∀ (m k : Nat), k + m = e → ev X m_X5_snow 82 [vR 53, vI (c : Int), vI (e : Int), vI (u : Int), vI w, vI 0, vL 0, vS, vL ((u ^ k : Nat) : Int), vS, vI (k : Int), vS, vS, vS] [] (mpt mem g d) = ev X m_X5_snow 104 [vR 53, vI (c : Int), vI (e : Int), vI (u : Int), vI w, vI 0, vL 0, vS, vL ((u ^ e : Nat) : Int), vS, vI 0, vS, vS, vS] [] (mpt mem g d) := by
    intro m
    induction m with
    | zero =>
      intro k hk
      rw [eX5_snow_82, show k = e by omega]
      simp only [eX5_snow_84, eX5_snow_85, eX5_snow_88, eX5_snow_90, eX5_snow_91, eX5_snow_92, eX5_snow_93, eX5_snow_95, eX5_snow_98, eX5_snow_101, eX5_snow_102, evb_some, evm_some, evc_some, evc_none, gd, if_true, if_false, eq_self, and_self, and_true, true_and, ne_eq, not_false_eq_true, or_true, true_or, mg, mf0, mf1, mf2, mf3, mf4, mf5, mf6, mf7, mf8, mf9, mf10, mf11, mf12, mf13, mf14, mf15, mf16, mf17, mf18, mf19, mf20, mf21, mf22, mf23, mf24, mf25, mf26, mf27, ma54, ma55, ma56, ma57, ma58, ma59, ma60, ma61, ma62, ma63, ma64, ma65, ma66, ma67, ma68, ma69, ma70, ma71, Int.reduceEq, Int.reduceLT, Int.reduceLE, ↓reduceIte, show ¬ (e : Int) < (e : Int) by omega]
    | succ m ih =>
      intro k hk
      have c1 : (k : Int) < (e : Int) := by omega
      have hp := pow_b (u := u) hu (show k + 1 ≤ 7 by omega)
      have e2 : w64 (((u ^ k : Nat) : Int) * (u : Int)) = ((u ^ (k + 1) : Nat) : Int) := by
        rw [← Int.natCast_mul, Nat.pow_succ] at *
        exact w64_n (by omega)
      rw [eX5_snow_82]
      simp only [eX5_snow_84, eX5_snow_85, eX5_snow_88, eX5_snow_90, eX5_snow_91, eX5_snow_92, eX5_snow_93, eX5_snow_95, eX5_snow_98, eX5_snow_101, eX5_snow_102, evb_some, evm_some, evc_some, evc_none, gd, if_true, if_false, eq_self, and_self, and_true, true_and, ne_eq, not_false_eq_true, or_true, true_or, mg, mf0, mf1, mf2, mf3, mf4, mf5, mf6, mf7, mf8, mf9, mf10, mf11, mf12, mf13, mf14, mf15, mf16, mf17, mf18, mf19, mf20, mf21, mf22, mf23, mf24, mf25, mf26, mf27, ma54, ma55, ma56, ma57, ma58, ma59, ma60, ma61, ma62, ma63, ma64, ma65, ma66, ma67, ma68, ma69, ma70, ma71, Int.reduceEq, Int.reduceLT, Int.reduceLE, ↓reduceIte, c1, e2, w32_k1 (show k < 2147483647 by omega)]
      exact ih (k + 1) (by omega)
  refine Eq.trans ?_ ((kp e 0 (by omega)).trans h2)
  have u1 : ¬ (u : Int) < 2 := by omega
  have u2 : ¬ (20 : Int) < (u : Int) := by omega
  have e1 : ¬ (e : Int) < 0 := by omega
  have e2 : ¬ (7 : Int) < (e : Int) := by omega
  simp only [eX5_snow_0, eX5_snow_1, eX5_snow_2, eX5_snow_5, eX5_snow_8, eX5_snow_9, eX5_snow_12, eX5_snow_13, eX5_snow_16, eX5_snow_17, eX5_snow_18, eX5_snow_21, eX5_snow_23, eX5_snow_26, eX5_snow_27, eX5_snow_29, eX5_snow_32, eX5_snow_33, eX5_snow_35, eX5_snow_38, eX5_snow_40, eX5_snow_43, eX5_snow_45, eX5_snow_46, eX5_snow_47, eX5_snow_50, eX5_snow_53, eX5_snow_55, eX5_snow_58, eX5_snow_59, eX5_snow_61, eX5_snow_63, eX5_snow_66, eX5_snow_67, eX5_snow_69, eX5_snow_72, eX5_snow_73, eX5_snow_74, eX5_snow_76, eX5_snow_77, eX5_snow_79, eX5_snow_80, evb_some, evm_some, evc_some, evc_none, gd, if_true, if_false, eq_self, and_self, and_true, true_and, ne_eq, not_false_eq_true, or_true, true_or, mg, mf0, mf1, mf2, mf3, mf4, mf5, mf6, mf7, mf8, mf9, mf10, mf11, mf12, mf13, mf14, mf15, mf16, mf17, mf18, mf19, mf20, mf21, mf22, mf23, mf24, mf25, mf26, mf27, ma54, ma55, ma56, ma57, ma58, ma59, ma60, ma61, ma62, ma63, ma64, ma65, ma66, ma67, ma68, ma69, ma70, ma71, Int.reduceEq, Int.reduceLT, Int.reduceLE, ↓reduceIte, T5_isParcelY (show 0 ≤ (c : Int) ∧ (c : Int) < d.1 1 by omega), T5_isIn, u1, u2, e1, e2, hw, Nat.pow_zero]
  rfl
theorem B_snow (h : Rla n t mi la g gm) (c k u w : Int) : Bth X m_X4_snow [vI c, vI k, vI u, vI w, vS, vS, vS] m_X5_snow [vI c, vI k, vI u, vI w, vS, vS, vS, vS, vS, vS, vS, vS, vS] mem n t mi la g gm := by
  have hW := h.1; have hL := hW.1; have h6 := hW.2.1.2; have h8 := hW.2.2.1.2; have hg := Rla_g h; have hm := Rla_m h; obtain ⟨l1, l2, l3, l4, l5, l6, l7, l8, l9, l10⟩ := id hL
  have hk := Rla_k h
  by_cases c1 : 0 ≤ c ∧ c < n.1 1
  case neg => exact Bth_no 1 (r := vL (w64 (4000000000000000000 - -1))) h (fun M => by simp only [eX4_snow_0, eX4_snow_1, eX4_snow_4, eX4_snow_5, eX4_snow_8, eX4_snow_11, eX4_snow_12, eX4_snow_13, eX4_snow_16, eX4_snow_17, eX4_snow_18, eX4_snow_21, eX4_snow_22, eX4_snow_23, eX4_snow_26, eX4_snow_27, eX4_snow_29, eX4_snow_32, eX4_snow_33, eX4_snow_34, eX4_snow_36, eX4_snow_39, eX4_snow_40, eX4_snow_42, eX4_snow_45, eX4_snow_46, eX4_snow_48, eX4_snow_51, eX4_snow_52, eX4_snow_54, eX4_snow_57, eX4_snow_59, eX4_snow_60, eX4_snow_63, eX4_snow_64, eX4_snow_66, eX4_snow_69, eX4_snow_70, eX4_snow_71, eX4_snow_73, eX4_snow_74, evb_some, evm_some, evc_some, evc_none, gd, if_true, if_false, eq_self, and_self, and_true, true_and, ne_eq, not_false_eq_true, or_true, true_or, cf0_0, cf0_1, cf0_2, cf0_3, cf0_4, cf0_5, cf0_6, cf23_0, cf23_1, cf23_2, cf23_3, cf48_0, cf48_1, cf50_0, cf50_1, cg0, cg23, cg48, cg50, cg1, cg12, cg24, cg35, Int.reduceEq, Int.reduceLT, Int.reduceLE, ↓reduceIte, n_hasParcelN c1, T4_nl1 hg]) (fun M => by simp only [eX5_snow_0, eX5_snow_1, eX5_snow_2, eX5_snow_5, eX5_snow_8, eX5_snow_9, eX5_snow_12, eX5_snow_13, eX5_snow_16, eX5_snow_17, eX5_snow_18, eX5_snow_21, eX5_snow_23, eX5_snow_26, eX5_snow_27, eX5_snow_29, eX5_snow_32, eX5_snow_33, eX5_snow_35, eX5_snow_38, eX5_snow_40, eX5_snow_43, eX5_snow_45, eX5_snow_46, eX5_snow_47, eX5_snow_50, eX5_snow_53, eX5_snow_55, eX5_snow_58, eX5_snow_59, eX5_snow_61, eX5_snow_63, eX5_snow_66, eX5_snow_67, eX5_snow_69, eX5_snow_72, eX5_snow_73, evb_some, evm_some, evc_some, evc_none, gd, if_true, if_false, eq_self, and_self, and_true, true_and, ne_eq, not_false_eq_true, or_true, true_or, mg, mf0, mf1, mf2, mf3, mf4, mf5, mf6, mf7, mf8, mf9, mf10, mf11, mf12, mf13, mf14, mf15, mf16, mf17, mf18, mf19, mf20, mf21, mf22, mf23, mf24, mf25, mf26, mf27, ma54, ma55, ma56, ma57, ma58, ma59, ma60, ma61, ma62, ma63, ma64, ma65, ma66, ma67, ma68, ma69, ma70, ma71, Int.reduceEq, Int.reduceLT, Int.reduceLE, ↓reduceIte, T5_isParcelN c1, T5_nl1 hm])
  by_cases c2 : k < 0
  · exact Bth_no 4 (r := vL (w64 (4000000000000000000 - -4))) h (fun M => by simp only [eX4_snow_0, eX4_snow_1, eX4_snow_4, eX4_snow_5, eX4_snow_8, eX4_snow_11, eX4_snow_12, eX4_snow_13, eX4_snow_16, eX4_snow_17, eX4_snow_18, eX4_snow_21, eX4_snow_22, eX4_snow_23, eX4_snow_26, eX4_snow_27, eX4_snow_29, eX4_snow_32, eX4_snow_33, eX4_snow_34, eX4_snow_36, eX4_snow_39, eX4_snow_40, eX4_snow_42, eX4_snow_45, eX4_snow_46, eX4_snow_48, eX4_snow_51, eX4_snow_52, eX4_snow_54, eX4_snow_57, eX4_snow_59, eX4_snow_60, eX4_snow_63, eX4_snow_64, eX4_snow_66, eX4_snow_69, eX4_snow_70, eX4_snow_71, eX4_snow_73, eX4_snow_74, evb_some, evm_some, evc_some, evc_none, gd, if_true, if_false, eq_self, and_self, and_true, true_and, ne_eq, not_false_eq_true, or_true, true_or, cf0_0, cf0_1, cf0_2, cf0_3, cf0_4, cf0_5, cf0_6, cf23_0, cf23_1, cf23_2, cf23_3, cf48_0, cf48_1, cf50_0, cf50_1, cg0, cg23, cg48, cg50, cg1, cg12, cg24, cg35, Int.reduceEq, Int.reduceLT, Int.reduceLE, ↓reduceIte, n_hasParcelY c1, c2, T4_nl4 hg]) (fun M => by simp only [eX5_snow_0, eX5_snow_1, eX5_snow_2, eX5_snow_5, eX5_snow_8, eX5_snow_9, eX5_snow_12, eX5_snow_13, eX5_snow_16, eX5_snow_17, eX5_snow_18, eX5_snow_21, eX5_snow_23, eX5_snow_26, eX5_snow_27, eX5_snow_29, eX5_snow_32, eX5_snow_33, eX5_snow_35, eX5_snow_38, eX5_snow_40, eX5_snow_43, eX5_snow_45, eX5_snow_46, eX5_snow_47, eX5_snow_50, eX5_snow_53, eX5_snow_55, eX5_snow_58, eX5_snow_59, eX5_snow_61, eX5_snow_63, eX5_snow_66, eX5_snow_67, eX5_snow_69, eX5_snow_72, eX5_snow_73, evb_some, evm_some, evc_some, evc_none, gd, if_true, if_false, eq_self, and_self, and_true, true_and, ne_eq, not_false_eq_true, or_true, true_or, mg, mf0, mf1, mf2, mf3, mf4, mf5, mf6, mf7, mf8, mf9, mf10, mf11, mf12, mf13, mf14, mf15, mf16, mf17, mf18, mf19, mf20, mf21, mf22, mf23, mf24, mf25, mf26, mf27, ma54, ma55, ma56, ma57, ma58, ma59, ma60, ma61, ma62, ma63, ma64, ma65, ma66, ma67, ma68, ma69, ma70, ma71, Int.reduceEq, Int.reduceLT, Int.reduceLE, ↓reduceIte, T5_isParcelY c1, c2, T5_nl4 hm])
  by_cases c3 : u < 2
  · exact Bth_no 4 (r := vL (w64 (4000000000000000000 - -4))) h (fun M => by simp only [eX4_snow_0, eX4_snow_1, eX4_snow_4, eX4_snow_5, eX4_snow_8, eX4_snow_11, eX4_snow_12, eX4_snow_13, eX4_snow_16, eX4_snow_17, eX4_snow_18, eX4_snow_21, eX4_snow_22, eX4_snow_23, eX4_snow_26, eX4_snow_27, eX4_snow_29, eX4_snow_32, eX4_snow_33, eX4_snow_34, eX4_snow_36, eX4_snow_39, eX4_snow_40, eX4_snow_42, eX4_snow_45, eX4_snow_46, eX4_snow_48, eX4_snow_51, eX4_snow_52, eX4_snow_54, eX4_snow_57, eX4_snow_59, eX4_snow_60, eX4_snow_63, eX4_snow_64, eX4_snow_66, eX4_snow_69, eX4_snow_70, eX4_snow_71, eX4_snow_73, eX4_snow_74, evb_some, evm_some, evc_some, evc_none, gd, if_true, if_false, eq_self, and_self, and_true, true_and, ne_eq, not_false_eq_true, or_true, true_or, cf0_0, cf0_1, cf0_2, cf0_3, cf0_4, cf0_5, cf0_6, cf23_0, cf23_1, cf23_2, cf23_3, cf48_0, cf48_1, cf50_0, cf50_1, cg0, cg23, cg48, cg50, cg1, cg12, cg24, cg35, Int.reduceEq, Int.reduceLT, Int.reduceLE, ↓reduceIte, n_hasParcelY c1, c2, c3, T4_nl4 hg]) (fun M => by simp only [eX5_snow_0, eX5_snow_1, eX5_snow_2, eX5_snow_5, eX5_snow_8, eX5_snow_9, eX5_snow_12, eX5_snow_13, eX5_snow_16, eX5_snow_17, eX5_snow_18, eX5_snow_21, eX5_snow_23, eX5_snow_26, eX5_snow_27, eX5_snow_29, eX5_snow_32, eX5_snow_33, eX5_snow_35, eX5_snow_38, eX5_snow_40, eX5_snow_43, eX5_snow_45, eX5_snow_46, eX5_snow_47, eX5_snow_50, eX5_snow_53, eX5_snow_55, eX5_snow_58, eX5_snow_59, eX5_snow_61, eX5_snow_63, eX5_snow_66, eX5_snow_67, eX5_snow_69, eX5_snow_72, eX5_snow_73, evb_some, evm_some, evc_some, evc_none, gd, if_true, if_false, eq_self, and_self, and_true, true_and, ne_eq, not_false_eq_true, or_true, true_or, mg, mf0, mf1, mf2, mf3, mf4, mf5, mf6, mf7, mf8, mf9, mf10, mf11, mf12, mf13, mf14, mf15, mf16, mf17, mf18, mf19, mf20, mf21, mf22, mf23, mf24, mf25, mf26, mf27, ma54, ma55, ma56, ma57, ma58, ma59, ma60, ma61, ma62, ma63, ma64, ma65, ma66, ma67, ma68, ma69, ma70, ma71, Int.reduceEq, Int.reduceLT, Int.reduceLE, ↓reduceIte, T5_isParcelY c1, c2, c3, T5_nl4 hm])
  by_cases c4 : 7 < k
  · exact Bth_no 6 (r := vL (w64 (4000000000000000000 - -6))) h (fun M => by simp only [eX4_snow_0, eX4_snow_1, eX4_snow_4, eX4_snow_5, eX4_snow_8, eX4_snow_11, eX4_snow_12, eX4_snow_13, eX4_snow_16, eX4_snow_17, eX4_snow_18, eX4_snow_21, eX4_snow_22, eX4_snow_23, eX4_snow_26, eX4_snow_27, eX4_snow_29, eX4_snow_32, eX4_snow_33, eX4_snow_34, eX4_snow_36, eX4_snow_39, eX4_snow_40, eX4_snow_42, eX4_snow_45, eX4_snow_46, eX4_snow_48, eX4_snow_51, eX4_snow_52, eX4_snow_54, eX4_snow_57, eX4_snow_59, eX4_snow_60, eX4_snow_63, eX4_snow_64, eX4_snow_66, eX4_snow_69, eX4_snow_70, eX4_snow_71, eX4_snow_73, eX4_snow_74, evb_some, evm_some, evc_some, evc_none, gd, if_true, if_false, eq_self, and_self, and_true, true_and, ne_eq, not_false_eq_true, or_true, true_or, cf0_0, cf0_1, cf0_2, cf0_3, cf0_4, cf0_5, cf0_6, cf23_0, cf23_1, cf23_2, cf23_3, cf48_0, cf48_1, cf50_0, cf50_1, cg0, cg23, cg48, cg50, cg1, cg12, cg24, cg35, Int.reduceEq, Int.reduceLT, Int.reduceLE, ↓reduceIte, n_hasParcelY c1, c2, c3, c4, T4_nl6 hg]) (fun M => by simp only [eX5_snow_0, eX5_snow_1, eX5_snow_2, eX5_snow_5, eX5_snow_8, eX5_snow_9, eX5_snow_12, eX5_snow_13, eX5_snow_16, eX5_snow_17, eX5_snow_18, eX5_snow_21, eX5_snow_23, eX5_snow_26, eX5_snow_27, eX5_snow_29, eX5_snow_32, eX5_snow_33, eX5_snow_35, eX5_snow_38, eX5_snow_40, eX5_snow_43, eX5_snow_45, eX5_snow_46, eX5_snow_47, eX5_snow_50, eX5_snow_53, eX5_snow_55, eX5_snow_58, eX5_snow_59, eX5_snow_61, eX5_snow_63, eX5_snow_66, eX5_snow_67, eX5_snow_69, eX5_snow_72, eX5_snow_73, evb_some, evm_some, evc_some, evc_none, gd, if_true, if_false, eq_self, and_self, and_true, true_and, ne_eq, not_false_eq_true, or_true, true_or, mg, mf0, mf1, mf2, mf3, mf4, mf5, mf6, mf7, mf8, mf9, mf10, mf11, mf12, mf13, mf14, mf15, mf16, mf17, mf18, mf19, mf20, mf21, mf22, mf23, mf24, mf25, mf26, mf27, ma54, ma55, ma56, ma57, ma58, ma59, ma60, ma61, ma62, ma63, ma64, ma65, ma66, ma67, ma68, ma69, ma70, ma71, Int.reduceEq, Int.reduceLT, Int.reduceLE, ↓reduceIte, T5_isParcelY c1, c2, c3, c4, T5_nl6 hm])
  by_cases c5 : 20 < u
  · exact Bth_no 6 (r := vL (w64 (4000000000000000000 - -6))) h (fun M => by simp only [eX4_snow_0, eX4_snow_1, eX4_snow_4, eX4_snow_5, eX4_snow_8, eX4_snow_11, eX4_snow_12, eX4_snow_13, eX4_snow_16, eX4_snow_17, eX4_snow_18, eX4_snow_21, eX4_snow_22, eX4_snow_23, eX4_snow_26, eX4_snow_27, eX4_snow_29, eX4_snow_32, eX4_snow_33, eX4_snow_34, eX4_snow_36, eX4_snow_39, eX4_snow_40, eX4_snow_42, eX4_snow_45, eX4_snow_46, eX4_snow_48, eX4_snow_51, eX4_snow_52, eX4_snow_54, eX4_snow_57, eX4_snow_59, eX4_snow_60, eX4_snow_63, eX4_snow_64, eX4_snow_66, eX4_snow_69, eX4_snow_70, eX4_snow_71, eX4_snow_73, eX4_snow_74, evb_some, evm_some, evc_some, evc_none, gd, if_true, if_false, eq_self, and_self, and_true, true_and, ne_eq, not_false_eq_true, or_true, true_or, cf0_0, cf0_1, cf0_2, cf0_3, cf0_4, cf0_5, cf0_6, cf23_0, cf23_1, cf23_2, cf23_3, cf48_0, cf48_1, cf50_0, cf50_1, cg0, cg23, cg48, cg50, cg1, cg12, cg24, cg35, Int.reduceEq, Int.reduceLT, Int.reduceLE, ↓reduceIte, n_hasParcelY c1, c2, c3, c4, c5, T4_nl6 hg]) (fun M => by simp only [eX5_snow_0, eX5_snow_1, eX5_snow_2, eX5_snow_5, eX5_snow_8, eX5_snow_9, eX5_snow_12, eX5_snow_13, eX5_snow_16, eX5_snow_17, eX5_snow_18, eX5_snow_21, eX5_snow_23, eX5_snow_26, eX5_snow_27, eX5_snow_29, eX5_snow_32, eX5_snow_33, eX5_snow_35, eX5_snow_38, eX5_snow_40, eX5_snow_43, eX5_snow_45, eX5_snow_46, eX5_snow_47, eX5_snow_50, eX5_snow_53, eX5_snow_55, eX5_snow_58, eX5_snow_59, eX5_snow_61, eX5_snow_63, eX5_snow_66, eX5_snow_67, eX5_snow_69, eX5_snow_72, eX5_snow_73, evb_some, evm_some, evc_some, evc_none, gd, if_true, if_false, eq_self, and_self, and_true, true_and, ne_eq, not_false_eq_true, or_true, true_or, mg, mf0, mf1, mf2, mf3, mf4, mf5, mf6, mf7, mf8, mf9, mf10, mf11, mf12, mf13, mf14, mf15, mf16, mf17, mf18, mf19, mf20, mf21, mf22, mf23, mf24, mf25, mf26, mf27, ma54, ma55, ma56, ma57, ma58, ma59, ma60, ma61, ma62, ma63, ma64, ma65, ma66, ma67, ma68, ma69, ma70, ma71, Int.reduceEq, Int.reduceLT, Int.reduceLE, ↓reduceIte, T5_isParcelY c1, c2, c3, c4, c5, T5_nl6 hm])
  by_cases c6 : w < 0
  · exact Bth_no 2 (r := vL (w64 (4000000000000000000 - -2))) h (fun M => by simp only [eX4_snow_0, eX4_snow_1, eX4_snow_4, eX4_snow_5, eX4_snow_8, eX4_snow_11, eX4_snow_12, eX4_snow_13, eX4_snow_16, eX4_snow_17, eX4_snow_18, eX4_snow_21, eX4_snow_22, eX4_snow_23, eX4_snow_26, eX4_snow_27, eX4_snow_29, eX4_snow_32, eX4_snow_33, eX4_snow_34, eX4_snow_36, eX4_snow_39, eX4_snow_40, eX4_snow_42, eX4_snow_45, eX4_snow_46, eX4_snow_48, eX4_snow_51, eX4_snow_52, eX4_snow_54, eX4_snow_57, eX4_snow_59, eX4_snow_60, eX4_snow_63, eX4_snow_64, eX4_snow_66, eX4_snow_69, eX4_snow_70, eX4_snow_71, eX4_snow_73, eX4_snow_74, evb_some, evm_some, evc_some, evc_none, gd, if_true, if_false, eq_self, and_self, and_true, true_and, ne_eq, not_false_eq_true, or_true, true_or, cf0_0, cf0_1, cf0_2, cf0_3, cf0_4, cf0_5, cf0_6, cf23_0, cf23_1, cf23_2, cf23_3, cf48_0, cf48_1, cf50_0, cf50_1, cg0, cg23, cg48, cg50, cg1, cg12, cg24, cg35, Int.reduceEq, Int.reduceLT, Int.reduceLE, ↓reduceIte, n_hasParcelY c1, c2, c3, c4, c5, c6, T4_nl2 hg]) (fun M => by simp only [eX5_snow_0, eX5_snow_1, eX5_snow_2, eX5_snow_5, eX5_snow_8, eX5_snow_9, eX5_snow_12, eX5_snow_13, eX5_snow_16, eX5_snow_17, eX5_snow_18, eX5_snow_21, eX5_snow_23, eX5_snow_26, eX5_snow_27, eX5_snow_29, eX5_snow_32, eX5_snow_33, eX5_snow_35, eX5_snow_38, eX5_snow_40, eX5_snow_43, eX5_snow_45, eX5_snow_46, eX5_snow_47, eX5_snow_50, eX5_snow_53, eX5_snow_55, eX5_snow_58, eX5_snow_59, eX5_snow_61, eX5_snow_63, eX5_snow_66, eX5_snow_67, eX5_snow_69, eX5_snow_72, eX5_snow_73, evb_some, evm_some, evc_some, evc_none, gd, if_true, if_false, eq_self, and_self, and_true, true_and, ne_eq, not_false_eq_true, or_true, true_or, mg, mf0, mf1, mf2, mf3, mf4, mf5, mf6, mf7, mf8, mf9, mf10, mf11, mf12, mf13, mf14, mf15, mf16, mf17, mf18, mf19, mf20, mf21, mf22, mf23, mf24, mf25, mf26, mf27, ma54, ma55, ma56, ma57, ma58, ma59, ma60, ma61, ma62, ma63, ma64, ma65, ma66, ma67, ma68, ma69, ma70, ma71, Int.reduceEq, Int.reduceLT, Int.reduceLE, ↓reduceIte, T5_isParcelY c1, c2, c3, c4, c5, T5_isIn, show ¬ (0 ≤ w ∧ w ≤ 1) by omega, T5_nl2 hm])
  by_cases c7 : 1 < w
  · exact Bth_no 2 (r := vL (w64 (4000000000000000000 - -2))) h (fun M => by simp only [eX4_snow_0, eX4_snow_1, eX4_snow_4, eX4_snow_5, eX4_snow_8, eX4_snow_11, eX4_snow_12, eX4_snow_13, eX4_snow_16, eX4_snow_17, eX4_snow_18, eX4_snow_21, eX4_snow_22, eX4_snow_23, eX4_snow_26, eX4_snow_27, eX4_snow_29, eX4_snow_32, eX4_snow_33, eX4_snow_34, eX4_snow_36, eX4_snow_39, eX4_snow_40, eX4_snow_42, eX4_snow_45, eX4_snow_46, eX4_snow_48, eX4_snow_51, eX4_snow_52, eX4_snow_54, eX4_snow_57, eX4_snow_59, eX4_snow_60, eX4_snow_63, eX4_snow_64, eX4_snow_66, eX4_snow_69, eX4_snow_70, eX4_snow_71, eX4_snow_73, eX4_snow_74, evb_some, evm_some, evc_some, evc_none, gd, if_true, if_false, eq_self, and_self, and_true, true_and, ne_eq, not_false_eq_true, or_true, true_or, cf0_0, cf0_1, cf0_2, cf0_3, cf0_4, cf0_5, cf0_6, cf23_0, cf23_1, cf23_2, cf23_3, cf48_0, cf48_1, cf50_0, cf50_1, cg0, cg23, cg48, cg50, cg1, cg12, cg24, cg35, Int.reduceEq, Int.reduceLT, Int.reduceLE, ↓reduceIte, n_hasParcelY c1, c2, c3, c4, c5, c6, c7, T4_nl2 hg]) (fun M => by simp only [eX5_snow_0, eX5_snow_1, eX5_snow_2, eX5_snow_5, eX5_snow_8, eX5_snow_9, eX5_snow_12, eX5_snow_13, eX5_snow_16, eX5_snow_17, eX5_snow_18, eX5_snow_21, eX5_snow_23, eX5_snow_26, eX5_snow_27, eX5_snow_29, eX5_snow_32, eX5_snow_33, eX5_snow_35, eX5_snow_38, eX5_snow_40, eX5_snow_43, eX5_snow_45, eX5_snow_46, eX5_snow_47, eX5_snow_50, eX5_snow_53, eX5_snow_55, eX5_snow_58, eX5_snow_59, eX5_snow_61, eX5_snow_63, eX5_snow_66, eX5_snow_67, eX5_snow_69, eX5_snow_72, eX5_snow_73, evb_some, evm_some, evc_some, evc_none, gd, if_true, if_false, eq_self, and_self, and_true, true_and, ne_eq, not_false_eq_true, or_true, true_or, mg, mf0, mf1, mf2, mf3, mf4, mf5, mf6, mf7, mf8, mf9, mf10, mf11, mf12, mf13, mf14, mf15, mf16, mf17, mf18, mf19, mf20, mf21, mf22, mf23, mf24, mf25, mf26, mf27, ma54, ma55, ma56, ma57, ma58, ma59, ma60, ma61, ma62, ma63, ma64, ma65, ma66, ma67, ma68, ma69, ma70, ma71, Int.reduceEq, Int.reduceLT, Int.reduceLE, ↓reduceIte, T5_isParcelY c1, c2, c3, c4, c5, T5_isIn, show ¬ (0 ≤ w ∧ w ≤ 1) by omega, T5_nl2 hm])
  obtain ⟨i, rfl⟩ := n2i c1.1
  obtain ⟨e, rfl⟩ := n2i (show 0 ≤ k by omega)
  obtain ⟨v, rfl⟩ := n2i (show 0 ≤ u by omega)
  refine Bth_y (r := vL (prt (itr (skR n i e v) (2 ^ e) 0 0) (v ^ e) w)) h (fun M => ?_) (fun M => ?_)
  · obtain ⟨d', h1, h2⟩ := T4_snow (X := X) (mem := M) (t := t) (la := la) (g := g) hW h.2.2.1 c1.2 (show e ≤ 7 by omega) (show 2 ≤ v ∧ v ≤ 20 by omega) ⟨c6, c7⟩
    exact ⟨d', la, h1, h.2.2.2.1, h2⟩
  · obtain ⟨g', h1, h2⟩ := T5_snow (X := X) (mem := M) hW hk c1.2 (show e ≤ 7 by omega) (show 2 ≤ v ∧ v ≤ 20 by omega) (show 0 ≤ w ∧ w ≤ 1 by omega)
    exact ⟨g', GQ_le h1 (by decide), h2⟩
end SN
