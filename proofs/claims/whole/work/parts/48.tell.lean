/-! TELLING A DUCHY, THE CLASS'S -/
section TE
variable {X : List Int} {mem M : AM} {n t mi la g gm d : ST} {l : List Int} {S : Nat}
def dg (l : List Int) (S p : Nat) : Int := lt l S p - 48
def nu (l : List Int) (S p : Nat) : Int := 10 * dg l S p + dg l S (p + 1)
abbrev isD (b : Int) : Prop := 48 ≤ b ∧ b ≤ 57
abbrev PR (d : ST) (i j : Int) : Prop := 0 ≤ i ∧ i < d.1 0 ∧ 0 ≤ j ∧ j < d.1 0 ∧ i ≠ j
def addPe (d : ST) (k f p : Int) : ST := setS (setL (setL (setL (setL d 1 ((d.2 1).set (d.1 0).toNat k)) 2 ((d.2 2).set (d.1 0).toNat f)) 3 ((d.2 3).set (d.1 0).toNat p)) 4 ((d.2 4).set (d.1 0).toNat 0)) 0 (w32 (d.1 0 + 1))
/-- what a statement makes of a duchy; none: it is not as it must be -/
def tl (l : List Int) (S p : Nat) (d : ST) : Option ST :=
  if lt l S p = 112 then (if d.1 0 < 6 ∧ nu l S (p + 3) ≤ 30 then some (addPe d (kof (lt l S (p + 1))) (dg l S (p + 2)) (nu l S (p + 3))) else none)
  else if lt l S p = 104 then (if PR d (dg l S (p + 1)) (dg l S (p + 2)) then some (setH d (dg l S (p + 1)).toNat (dg l S (p + 2)).toNat (nu l S (p + 3))) else none)
  else if lt l S p = 99 then (if d.1 1 < 8 ∧ 0 ≤ dg l S (p + 1) ∧ dg l S (p + 1) < d.1 0 then some (addP d (dg l S (p + 1)) (dg l S (p + 2))) else none)
  else if lt l S p = 115 then (if PR d (dg l S (p + 1)) (dg l S (p + 2)) then some (addH d (dg l S (p + 1)).toNat (dg l S (p + 2)).toNat 10) else none)
  else if lt l S p = 109 then (if PR d (dg l S (p + 1)) (dg l S (p + 2)) then some (peace d (dg l S (p + 1)).toNat (dg l S (p + 2)).toNat) else none)
  else (if 1 ≤ nu l S (p + 1) ∧ nu l S (p + 1) ≤ 60 ∧ w32 (d.1 2 + nu l S (p + 1)) ≤ 999 then some (pdays (nu l S (p + 1)).toNat d) else none)
/-- what a statement that fits is -/
theorem fit_d {b : Int} : fitB 35 b = true ↔ isD b := by
  unfold fitB
  rw [if_neg (by decide), if_pos rfl, decide_eq_true_iff]
theorem fit_k {b : Int} : fitB 75 b = true ↔ 0 ≤ b ∧ 0 ≤ kof b := by
  unfold fitB
  rw [if_pos rfl, decide_eq_true_iff]
theorem fit_s {s b : Int} (h1 : s ≠ 75) (h2 : s ≠ 35) (h3 : s ≠ 63) : fitB s b = true ↔ b = s := by
  unfold fitB
  rw [if_neg h1, if_neg h2, decide_eq_true_iff]
  exact ⟨fun z => z.1, fun z => ⟨z, h3⟩⟩
theorem mis_p {p : Nat} (h : lt l S p = 112) : mis l S p = if 0 ≤ lt l S (p + 1) ∧ 0 ≤ kof (lt l S (p + 1)) then (if isD (lt l S (p + 2)) then (if isD (lt l S (p + 3)) then (if isD (lt l S (p + 4)) then (if lt l S (p + 5) = 59 then none else some 5) else some 4) else some 3) else some 2) else some 1 := by
  have e : mis l S p = msL l S 1 p 6 0 := by unfold mis lnf; rw [h]; rfl
  have e2 : msL l S 1 p 6 0 = if fitB 112 (lt l S p) = true then (if fitB 75 (lt l S (p + 1)) = true then (if fitB 35 (lt l S (p + 2)) = true then (if fitB 35 (lt l S (p + 3)) = true then (if fitB 35 (lt l S (p + 4)) = true then (if fitB 59 (lt l S (p + 5)) = true then none else some 5) else some 4) else some 3) else some 2) else some 1) else some 0 := rfl
  rw [e, e2, if_pos ((fit_s (by decide) (by decide) (by decide)).2 h)]
  simp only [fit_d, fit_k, fit_s (show (59 : Int) ≠ 75 by decide) (by decide) (by decide)]
theorem mis_h {p : Nat} (h : lt l S p = 104) : mis l S p = if isD (lt l S (p + 1)) then (if isD (lt l S (p + 2)) then (if isD (lt l S (p + 3)) then (if isD (lt l S (p + 4)) then (if lt l S (p + 5) = 59 then none else some 5) else some 4) else some 3) else some 2) else some 1 := by
  have e : mis l S p = msL l S 2 p 6 0 := by unfold mis lnf; rw [h]; rfl
  have e2 : msL l S 2 p 6 0 = if fitB 104 (lt l S p) = true then (if fitB 35 (lt l S (p + 1)) = true then (if fitB 35 (lt l S (p + 2)) = true then (if fitB 35 (lt l S (p + 3)) = true then (if fitB 35 (lt l S (p + 4)) = true then (if fitB 59 (lt l S (p + 5)) = true then none else some 5) else some 4) else some 3) else some 2) else some 1) else some 0 := rfl
  rw [e, e2, if_pos ((fit_s (by decide) (by decide) (by decide)).2 h)]
  simp only [fit_d, fit_s (show (59 : Int) ≠ 75 by decide) (by decide) (by decide)]
theorem mis_c {p : Nat} (h : lt l S p = 99) : mis l S p = if isD (lt l S (p + 1)) then (if isD (lt l S (p + 2)) then (if lt l S (p + 3) = 59 then none else some 3) else some 2) else some 1 := by
  have e : mis l S p = msL l S 3 p 4 0 := by unfold mis lnf; rw [h]; rfl
  have e2 : msL l S 3 p 4 0 = if fitB 99 (lt l S p) = true then (if fitB 35 (lt l S (p + 1)) = true then (if fitB 35 (lt l S (p + 2)) = true then (if fitB 59 (lt l S (p + 3)) = true then none else some 3) else some 2) else some 1) else some 0 := rfl
  rw [e, e2, if_pos ((fit_s (by decide) (by decide) (by decide)).2 h)]
  simp only [fit_d, fit_s (show (59 : Int) ≠ 75 by decide) (by decide) (by decide)]
theorem mis_s {p : Nat} (h : lt l S p = 115) : mis l S p = if isD (lt l S (p + 1)) then (if isD (lt l S (p + 2)) then (if lt l S (p + 3) = 59 then none else some 3) else some 2) else some 1 := by
  have e : mis l S p = msL l S 4 p 4 0 := by unfold mis lnf; rw [h]; rfl
  have e2 : msL l S 4 p 4 0 = if fitB 115 (lt l S p) = true then (if fitB 35 (lt l S (p + 1)) = true then (if fitB 35 (lt l S (p + 2)) = true then (if fitB 59 (lt l S (p + 3)) = true then none else some 3) else some 2) else some 1) else some 0 := rfl
  rw [e, e2, if_pos ((fit_s (by decide) (by decide) (by decide)).2 h)]
  simp only [fit_d, fit_s (show (59 : Int) ≠ 75 by decide) (by decide) (by decide)]
theorem mis_m {p : Nat} (h : lt l S p = 109) : mis l S p = if isD (lt l S (p + 1)) then (if isD (lt l S (p + 2)) then (if lt l S (p + 3) = 59 then none else some 3) else some 2) else some 1 := by
  have e : mis l S p = msL l S 5 p 4 0 := by unfold mis lnf; rw [h]; rfl
  have e2 : msL l S 5 p 4 0 = if fitB 109 (lt l S p) = true then (if fitB 35 (lt l S (p + 1)) = true then (if fitB 35 (lt l S (p + 2)) = true then (if fitB 59 (lt l S (p + 3)) = true then none else some 3) else some 2) else some 1) else some 0 := rfl
  rw [e, e2, if_pos ((fit_s (by decide) (by decide) (by decide)).2 h)]
  simp only [fit_d, fit_s (show (59 : Int) ≠ 75 by decide) (by decide) (by decide)]
theorem mis_d {p : Nat} (h : lt l S p = 100) : mis l S p = if isD (lt l S (p + 1)) then (if isD (lt l S (p + 2)) then (if lt l S (p + 3) = 59 then none else some 3) else some 2) else some 1 := by
  have e : mis l S p = msL l S 6 p 4 0 := by unfold mis lnf; rw [h]; rfl
  have e2 : msL l S 6 p 4 0 = if fitB 100 (lt l S p) = true then (if fitB 35 (lt l S (p + 1)) = true then (if fitB 35 (lt l S (p + 2)) = true then (if fitB 59 (lt l S (p + 3)) = true then none else some 3) else some 2) else some 1) else some 0 := rfl
  rw [e, e2, if_pos ((fit_s (by decide) (by decide) (by decide)).2 h)]
  simp only [fit_d, fit_s (show (59 : Int) ≠ 75 by decide) (by decide) (by decide)]
theorem mis_o {p : Nat} (h1 : lt l S p ≠ 112) (h2 : lt l S p ≠ 104) (h3 : lt l S p ≠ 99) (h4 : lt l S p ≠ 115) (h5 : lt l S p ≠ 109) (h6 : lt l S p ≠ 100) : mis l S p = some 0 := by
  have e0 : fo (lt l S p) = 7 := by
    unfold fo
    rw [if_neg h1, if_neg h2, if_neg h3, if_neg h4, if_neg h5, if_neg h6]
  have e : mis l S p = msL l S 7 p 1 0 := by unfold mis lnf; rw [e0]; rfl
  have e2 : msL l S 7 p 1 0 = if fitB 63 (lt l S p) = true then none else some 0 := rfl
  rw [e, e2, if_neg (by unfold fitB; simp)]
/-- a statement that fits, by its letter -/
theorem fit_all {p : Nat} (h : mis l S p = none) : (lt l S p = 112 ∧ (0 ≤ lt l S (p + 1) ∧ 0 ≤ kof (lt l S (p + 1))) ∧ isD (lt l S (p + 2)) ∧ isD (lt l S (p + 3)) ∧ isD (lt l S (p + 4)) ∧ lt l S (p + 5) = 59) ∨ (lt l S p = 104 ∧ isD (lt l S (p + 1)) ∧ isD (lt l S (p + 2)) ∧ isD (lt l S (p + 3)) ∧ isD (lt l S (p + 4)) ∧ lt l S (p + 5) = 59) ∨ ((lt l S p = 99 ∨ lt l S p = 115 ∨ lt l S p = 109 ∨ lt l S p = 100) ∧ isD (lt l S (p + 1)) ∧ isD (lt l S (p + 2)) ∧ lt l S (p + 3) = 59) := by
  have k3 : ∀ {a b c : Prop} [Decidable a] [Decidable b] [Decidable c], (if a then (if b then (if c then (none : Option Nat) else some 3) else some 2) else some 1) = none → a ∧ b ∧ c := by
    intro a b c _ _ _ hh
    by_cases qa : a
    · rw [if_pos qa] at hh
      by_cases qb : b
      · rw [if_pos qb] at hh
        by_cases qc : c
        · exact ⟨qa, qb, qc⟩
        · rw [if_neg qc] at hh; exact absurd hh (by simp)
      · rw [if_neg qb] at hh; exact absurd hh (by simp)
    · rw [if_neg qa] at hh; exact absurd hh (by simp)
  have k5 : ∀ {a b c e f : Prop} [Decidable a] [Decidable b] [Decidable c] [Decidable e] [Decidable f], (if a then (if b then (if c then (if e then (if f then (none : Option Nat) else some 5) else some 4) else some 3) else some 2) else some 1) = none → a ∧ b ∧ c ∧ e ∧ f := by
    intro a b c e f _ _ _ _ _ hh
    by_cases qa : a
    · rw [if_pos qa] at hh
      by_cases qb : b
      · rw [if_pos qb] at hh
        by_cases qc : c
        · rw [if_pos qc] at hh
          by_cases qe : e
          · rw [if_pos qe] at hh
            by_cases qf : f
            · exact ⟨qa, qb, qc, qe, qf⟩
            · rw [if_neg qf] at hh; exact absurd hh (by simp)
          · rw [if_neg qe] at hh; exact absurd hh (by simp)
        · rw [if_neg qc] at hh; exact absurd hh (by simp)
      · rw [if_neg qb] at hh; exact absurd hh (by simp)
    · rw [if_neg qa] at hh; exact absurd hh (by simp)
  by_cases h1 : lt l S p = 112
  · rw [mis_p h1] at h
    exact Or.inl ⟨h1, k5 h⟩
  by_cases h2 : lt l S p = 104
  · rw [mis_h h2] at h
    exact Or.inr (Or.inl ⟨h2, k5 h⟩)
  by_cases h3 : lt l S p = 99
  · rw [mis_c h3] at h
    exact Or.inr (Or.inr ⟨Or.inl h3, k3 h⟩)
  by_cases h4 : lt l S p = 115
  · rw [mis_s h4] at h
    exact Or.inr (Or.inr ⟨Or.inr (Or.inl h4), k3 h⟩)
  by_cases h5 : lt l S p = 109
  · rw [mis_m h5] at h
    exact Or.inr (Or.inr ⟨Or.inr (Or.inr (Or.inl h5)), k3 h⟩)
  by_cases h6 : lt l S p = 100
  · rw [mis_d h6] at h
    exact Or.inr (Or.inr ⟨Or.inr (Or.inr (Or.inr h6)), k3 h⟩)
  rw [mis_o h1 h2 h3 h4 h5 h6] at h
  exact absurd h (by simp)
theorem DW_addPe (h : DW d) {k f p : Int} (h6 : d.1 0 < 6) (hp : 0 ≤ p ∧ p ≤ 30) : DW (addPe d k f p) := by
  obtain ⟨⟨l1, l2, l3, l4, l5, l6, l7, l8, l9, l10⟩, hp6, h8, hpl, hg, hh, hz, hcc⟩ := h
  obtain ⟨c, hc⟩ := n2i hp6.1
  have e0 : (addPe d k f p).1 0 = d.1 0 + 1 := by
    unfold addPe
    rw [setS_1, if_pos rfl, w32_id (by omega) (by omega)]
  have e3 : (addPe d k f p).2 3 = (d.2 3).set c p := by unfold addPe; rw [hc, Int.toNat_natCast]; rfl
  have e4 : (addPe d k f p).2 4 = (d.2 4).set c 0 := by unfold addPe; rw [hc, Int.toNat_natCast]; rfl
  refine ⟨⟨(List.length_set ..).trans l1, (List.length_set ..).trans l2, by rw [e3, List.length_set]; exact l3, by rw [e4, List.length_set]; exact l4, l5, l6, l7, l8, l9, l10⟩, by rw [e0]; omega, h8, fun i hi => ?_, fun i hi => ?_, hh, fun i j hi hj hij => ?_, fun e he => ?_⟩
  · rw [e3, getD_set (by omega)]
    split
    · exact hp
    · exact hpl i hi
  · rw [e4, getD_set (by omega)]
    split
    · omega
    · exact hg i hi
  · rw [e0] at hij
    exact hz i j hi hj (by omega)
  · have h1 := hcc e he
    rw [e0]
    obtain ⟨a1, a2, a3⟩ := h1
    refine ⟨⟨a1.1, Int.lt_trans a1.2 (show d.1 0 < d.1 0 + 1 by omega)⟩, a2, fun z => ?_⟩
    obtain ⟨b1, b2, b3⟩ := a3 z
    exact ⟨⟨b1.1, Int.lt_trans b1.2 (show d.1 0 < d.1 0 + 1 by omega)⟩, b2, b3⟩
theorem DW_tl {p : Nat} (h : DW d) (hf : mis l S p = none) {d' : ST} (ht : tl l S p d = some d') : DW d' := by
  have h6 := h.2.1
  have hs : ∀ {P : Prop} [Decidable P] {x : ST}, (if P then some x else none) = some d' → P ∧ d' = x := by
    intro P _ x hh
    by_cases q : P
    · rw [if_pos q] at hh
      exact ⟨q, (Option.some.inj hh).symm⟩
    · rw [if_neg q] at hh
      exact absurd hh (by simp)
  have hn : ∀ a, isD (lt l S a) → 0 ≤ dg l S a ∧ dg l S a ≤ 9 := fun a ha => by unfold dg; omega
  have hn2 : ∀ a, isD (lt l S a) → isD (lt l S (a + 1)) → 0 ≤ nu l S a ∧ nu l S a ≤ 99 := fun a ha hb => by
    have := hn a ha
    have := hn (a + 1) hb
    unfold nu
    omega
  unfold tl at ht
  rcases fit_all hf with ⟨b, f1, f2, f3, f4, f5⟩ | ⟨b, f1, f2, f3, f4, f5⟩ | ⟨b, f1, f2, f3⟩
  · rw [if_pos b] at ht
    obtain ⟨q, rfl⟩ := hs ht
    exact DW_addPe h q.1 ⟨(hn2 (p + 3) f3 f4).1, q.2⟩
  · rw [if_neg (by omega), if_pos b] at ht
    obtain ⟨q, rfl⟩ := hs ht
    exact DW_setH h (by omega) (by omega) (by omega) (hn2 (p + 3) f3 f4)
  · rw [if_neg (by omega), if_neg (by omega)] at ht
    rcases b with b | b | b | b
    · rw [if_pos b] at ht
      obtain ⟨q, rfl⟩ := hs ht
      exact (DW_addP h q.2 (hn (p + 2) f2) q.1).1
    · rw [if_neg (by omega), if_pos b] at ht
      obtain ⟨q, rfl⟩ := hs ht
      exact DW_addH h (by omega) (by omega) (by omega)
    · rw [if_neg (by omega), if_neg (by omega), if_pos b] at ht
      obtain ⟨q, rfl⟩ := hs ht
      exact DW_peace h (by omega) (by omega) (by omega)
    · rw [if_neg (by omega), if_neg (by omega), if_neg (by omega)] at ht
      obtain ⟨q, rfl⟩ := hs ht
      exact (pdays_ok h _).1
theorem T2_digitAt (hg : GL g) (hS : g.1 1 = (S : Int)) (h96 : S ≤ 96) (hl : ∀ k : Nat, 0 ≤ (g.2 1).getD k 0 ∧ (g.2 1).getD k 0 ≤ 255) {p : Nat} : ev X m_X2_digitAt 0 [vR 48, vI (p : Int)] [] (cpt mem n t mi la g) = some (some (vI (dg (g.2 1) S p)), cpt mem n t mi la g) := by
  have h := lt_b (S := S) hl p
  simp only [eX2_digitAt_0, eX2_digitAt_0x, eX2_digitAt_1, eX2_digitAt_2, eX2_digitAt_5, eX2_digitAt_7, eX2_digitAt_8, evb_some, evm_some, evc_some, evc_none, gd, if_true, if_false, eq_self, and_self, and_true, true_and, ne_eq, not_false_eq_true, or_true, true_or, cf0_0, cf0_1, cf0_2, cf0_3, cf0_4, cf0_5, cf0_6, cf23_0, cf23_1, cf23_2, cf23_3, cf48_0, cf48_1, cf50_0, cf50_1, cg0, cg23, cg48, cg50, cg1, cg12, cg24, cg35, Int.reduceEq, Int.reduceLT, Int.reduceLE, ↓reduceIte, T2_letterAt hg hS h96, w32_id (show -2147483648 ≤ lt (g.2 1) S p - 48 by omega) (show lt (g.2 1) S p - 48 < 2147483648 by omega), dg]
theorem T2_numberAt (hg : GL g) (hS : g.1 1 = (S : Int)) (h96 : S ≤ 96) (hl : ∀ k : Nat, 0 ≤ (g.2 1).getD k 0 ∧ (g.2 1).getD k 0 ≤ 255) {p : Nat} (hp : p < 1000) : ev X m_X2_numberAt 0 [vR 48, vI (p : Int)] [] (cpt mem n t mi la g) = some (some (vI (nu (g.2 1) S p)), cpt mem n t mi la g) := by
  have h := lt_b (S := S) hl p
  have h2 := lt_b (S := S) hl (p + 1)
  have e : w32 (w32 (10 * dg (g.2 1) S p) + dg (g.2 1) S (p + 1)) = nu (g.2 1) S p := by
    unfold nu dg
    rw [w32_id (n := 10 * (lt (g.2 1) S p - 48)) (by omega) (by omega), w32_id (by omega) (by omega)]
  simp only [eX2_numberAt_0, eX2_numberAt_2, eX2_numberAt_2x, eX2_numberAt_3, eX2_numberAt_4, eX2_numberAt_7, eX2_numberAt_8, eX2_numberAt_8x, eX2_numberAt_9, eX2_numberAt_10, eX2_numberAt_11, eX2_numberAt_12, eX2_numberAt_15, eX2_numberAt_16, evb_some, evm_some, evc_some, evc_none, gd, if_true, if_false, eq_self, and_self, and_true, true_and, ne_eq, not_false_eq_true, or_true, true_or, cf0_0, cf0_1, cf0_2, cf0_3, cf0_4, cf0_5, cf0_6, cf23_0, cf23_1, cf23_2, cf23_3, cf48_0, cf48_1, cf50_0, cf50_1, cg0, cg23, cg48, cg50, cg1, cg12, cg24, cg35, Int.reduceEq, Int.reduceLT, Int.reduceLE, ↓reduceIte, T2_digitAt hg hS h96 hl, w32_k1 (show p < 2147483647 by omega), e]
theorem T2_letDaysPass (h : DW d) {k : Int} (hk : 0 ≤ k) : ev X m_X2_letDaysPass 0 [vI k, vR 24] [] (cpt mem n t d la g) = some (some (vI (if 1 ≤ k ∧ k ≤ 60 ∧ w32 (d.1 2 + k) ≤ 999 then 1 else 0)), cpt mem n t (if 1 ≤ k ∧ k ≤ 60 ∧ w32 (d.1 2 + k) ≤ 999 then pdays k.toNat d else d) la g) := by
  obtain ⟨e, rfl⟩ := n2i hk
  by_cases q1 : (e : Int) < 1
  · rw [if_neg (by omega), if_neg (by omega)]
    simp only [eX2_letDaysPass_0, eX2_letDaysPass_1, eX2_letDaysPass_2, eX2_letDaysPass_5, eX2_letDaysPass_6, eX2_letDaysPass_8, eX2_letDaysPass_11, eX2_letDaysPass_11x, eX2_letDaysPass_12, eX2_letDaysPass_15, eX2_letDaysPass_16, eX2_letDaysPass_17, eX2_letDaysPass_20, eX2_letDaysPass_23, eX2_letDaysPass_24a, eX2_letDaysPass_24b, eX2_letDaysPass_24c, eX2_letDaysPass_25, eX2_letDaysPass_25x, eX2_letDaysPass_26, eX2_letDaysPass_27, eX2_letDaysPass_30, eX2_letDaysPass_31a, eX2_letDaysPass_31b, eX2_letDaysPass_31c, evb_some, evm_some, evc_some, evc_none, gd, if_true, if_false, eq_self, and_self, and_true, true_and, ne_eq, not_false_eq_true, or_true, true_or, cf0_0, cf0_1, cf0_2, cf0_3, cf0_4, cf0_5, cf0_6, cf23_0, cf23_1, cf23_2, cf23_3, cf48_0, cf48_1, cf50_0, cf50_1, cg0, cg23, cg48, cg50, cg1, cg12, cg24, cg35, Int.reduceEq, Int.reduceLT, Int.reduceLE, ↓reduceIte, q1]
  · by_cases q2 : 60 < (e : Int)
    · rw [if_neg (by omega), if_neg (by omega)]
      simp only [eX2_letDaysPass_0, eX2_letDaysPass_1, eX2_letDaysPass_2, eX2_letDaysPass_5, eX2_letDaysPass_6, eX2_letDaysPass_8, eX2_letDaysPass_11, eX2_letDaysPass_11x, eX2_letDaysPass_12, eX2_letDaysPass_15, eX2_letDaysPass_16, eX2_letDaysPass_17, eX2_letDaysPass_20, eX2_letDaysPass_23, eX2_letDaysPass_24a, eX2_letDaysPass_24b, eX2_letDaysPass_24c, eX2_letDaysPass_25, eX2_letDaysPass_25x, eX2_letDaysPass_26, eX2_letDaysPass_27, eX2_letDaysPass_30, eX2_letDaysPass_31a, eX2_letDaysPass_31b, eX2_letDaysPass_31c, evb_some, evm_some, evc_some, evc_none, gd, if_true, if_false, eq_self, and_self, and_true, true_and, ne_eq, not_false_eq_true, or_true, true_or, cf0_0, cf0_1, cf0_2, cf0_3, cf0_4, cf0_5, cf0_6, cf23_0, cf23_1, cf23_2, cf23_3, cf48_0, cf48_1, cf50_0, cf50_1, cg0, cg23, cg48, cg50, cg1, cg12, cg24, cg35, Int.reduceEq, Int.reduceLT, Int.reduceLE, ↓reduceIte, q1, q2]
    · by_cases q3 : 999 < w32 (d.1 2 + (e : Int))
      · rw [if_neg (by omega), if_neg (by omega)]
        simp only [eX2_letDaysPass_0, eX2_letDaysPass_1, eX2_letDaysPass_2, eX2_letDaysPass_5, eX2_letDaysPass_6, eX2_letDaysPass_8, eX2_letDaysPass_11, eX2_letDaysPass_11x, eX2_letDaysPass_12, eX2_letDaysPass_15, eX2_letDaysPass_16, eX2_letDaysPass_17, eX2_letDaysPass_20, eX2_letDaysPass_23, eX2_letDaysPass_24a, eX2_letDaysPass_24b, eX2_letDaysPass_24c, eX2_letDaysPass_25, eX2_letDaysPass_25x, eX2_letDaysPass_26, eX2_letDaysPass_27, eX2_letDaysPass_30, eX2_letDaysPass_31a, eX2_letDaysPass_31b, eX2_letDaysPass_31c, evb_some, evm_some, evc_some, evc_none, gd, if_true, if_false, eq_self, and_self, and_true, true_and, ne_eq, not_false_eq_true, or_true, true_or, cf0_0, cf0_1, cf0_2, cf0_3, cf0_4, cf0_5, cf0_6, cf23_0, cf23_1, cf23_2, cf23_3, cf48_0, cf48_1, cf50_0, cf50_1, cg0, cg23, cg48, cg50, cg1, cg12, cg24, cg35, Int.reduceEq, Int.reduceLT, Int.reduceLE, ↓reduceIte, q1_0, q1_1, q1_2, q1_3, q1_4, q1_5, q1_6, q1_7, q1_8, q1_9, q1_10, q1_11, q1_12, q12_0, q12_1, q12_2, q12_3, q12_4, q12_5, q12_6, q12_7, q12_8, q12_9, q12_10, q12_11, q12_12, q24_0, q24_1, q24_2, q24_3, q24_4, q24_5, q24_6, q24_7, q24_8, q24_9, q24_10, q24_11, q24_12, q35_0, q35_1, q35_2, q35_3, q35_4, q35_5, q35_6, q35_7, q35_8, q35_9, q35_10, q35_11, q35_12, q1, q2, q3]
      · rw [if_pos (by omega), if_pos (by omega), Int.toNat_natCast]
        simp only [eX2_letDaysPass_0, eX2_letDaysPass_1, eX2_letDaysPass_2, eX2_letDaysPass_5, eX2_letDaysPass_6, eX2_letDaysPass_8, eX2_letDaysPass_11, eX2_letDaysPass_11x, eX2_letDaysPass_12, eX2_letDaysPass_15, eX2_letDaysPass_16, eX2_letDaysPass_17, eX2_letDaysPass_20, eX2_letDaysPass_23, eX2_letDaysPass_24a, eX2_letDaysPass_24b, eX2_letDaysPass_24c, eX2_letDaysPass_25, eX2_letDaysPass_25x, eX2_letDaysPass_26, eX2_letDaysPass_27, eX2_letDaysPass_30, eX2_letDaysPass_31a, eX2_letDaysPass_31b, eX2_letDaysPass_31c, evb_some, evm_some, evc_some, evc_none, gd, if_true, if_false, eq_self, and_self, and_true, true_and, ne_eq, not_false_eq_true, or_true, true_or, cf0_0, cf0_1, cf0_2, cf0_3, cf0_4, cf0_5, cf0_6, cf23_0, cf23_1, cf23_2, cf23_3, cf48_0, cf48_1, cf50_0, cf50_1, cg0, cg23, cg48, cg50, cg1, cg12, cg24, cg35, Int.reduceEq, Int.reduceLT, Int.reduceLE, ↓reduceIte, q1_0, q1_1, q1_2, q1_3, q1_4, q1_5, q1_6, q1_7, q1_8, q1_9, q1_10, q1_11, q1_12, q12_0, q12_1, q12_2, q12_3, q12_4, q12_5, q12_6, q12_7, q12_8, q12_9, q12_10, q12_11, q12_12, q24_0, q24_1, q24_2, q24_3, q24_4, q24_5, q24_6, q24_7, q24_8, q24_9, q24_10, q24_11, q24_12, q35_0, q35_1, q35_2, q35_3, q35_4, q35_5, q35_6, q35_7, q35_8, q35_9, q35_10, q35_11, q35_12, q1, q2, q3, m_passDays h (show e < 2147483647 by omega)]
theorem T2_tell (h : DW d) (hg : GL g) (hS : g.1 1 = (S : Int)) (h96 : S ≤ 96) (hl : ∀ k : Nat, 0 ≤ (g.2 1).getD k 0 ∧ (g.2 1).getD k 0 ≤ 255) {p : Nat} (hp : p ≤ 96) (hf : mis (g.2 1) S p = none) : ev X m_X2_tell 0 [vR 48, vI (p : Int), vR 24, vS, vS] [] (cpt mem n t d la g) = some (some (vI (match tl (g.2 1) S p d with
    | some _ => 1
    | none => 0)), cpt mem n t ((tl (g.2 1) S p d).getD d) la g) := by
  have h6 := h.2.1
  have h8 := h.2.2.1
  have p2 : w32 ((p : Int) + 2) = ((p + 2 : Nat) : Int) := by rw [w32_id (by omega) (by omega)]; omega
  have p3 : w32 ((p : Int) + 3) = ((p + 3 : Nat) : Int) := by rw [w32_id (by omega) (by omega)]; omega
  have p1 := w32_k1 (show p < 2147483647 by omega)
  have hdd := fun (q : Nat) => T2_digitAt (X := X) (mem := mem) (n := n) (t := t) (mi := d) (la := la) (p := q) hg hS h96 hl
  have hla := fun (q : Nat) => T2_letterAt (X := X) (mem := mem) (n := n) (t := t) (mi := d) (la := la) (p := q) hg hS h96
  have hnn := fun (q : Nat) (hq : q < 1000) => T2_numberAt (X := X) (mem := mem) (n := n) (t := t) (mi := d) (la := la) (p := q) hg hS h96 hl hq
  have hnl : ∀ a, isD (lt (g.2 1) S a) → 0 ≤ dg (g.2 1) S a ∧ dg (g.2 1) S a ≤ 9 := fun a ha => by unfold dg; omega
  unfold tl
  rcases fit_all hf with ⟨b, f1, f2, f3, f4, f5⟩ | ⟨b, f1, f2, f3, f4, f5⟩ | ⟨b, f1, f2, f3⟩
  · rw [if_pos b]
    have hb := lt_b (S := S) hl (p + 1)
    obtain ⟨c, hc⟩ := n2i f1.1
    have hi := J_indexOf (X := X) (M := cpt mem n t d la g) (c := c) (by omega)
    have hc2 : i2c32 (c : Int) = (c : Int) := c_tab ⟨c, by omega⟩
    rw [hc]
    by_cases q : d.1 0 < 6 ∧ nu (g.2 1) S (p + 3) ≤ 30
    · rw [if_pos q]
      have hA := m_addPerson (X := X) (mem := mem) (n := n) (t := t) (la := la) (g := g) (d := d) (k := kof (c : Int)) (f := dg (g.2 1) S (p + 2)) (p := nu (g.2 1) S (p + 3)) h.1 h6.1 q.1 q.2
      simp only [eX2_tell_0, eX2_tell_0x, eX2_tell_1, eX2_tell_2, eX2_tell_3, eX2_tell_4, eX2_tell_7, eX2_tell_8, eX2_tell_8x, eX2_tell_9, eX2_tell_10, eX2_tell_11, eX2_tell_12, eX2_tell_15, eX2_tell_17, eX2_tell_17x, eX2_tell_18, eX2_tell_19, eX2_tell_22, eX2_tell_72, eX2_tell_72x, eX2_tell_73, eX2_tell_75, eX2_tell_75x, eX2_tell_76, eX2_tell_77, eX2_tell_78, eX2_tell_79, eX2_tell_82, eX2_tell_83, eX2_tell_86, eX2_tell_88, eX2_tell_88x, eX2_tell_89, eX2_tell_90, eX2_tell_91, eX2_tell_92, eX2_tell_95, eX2_tell_98a, eX2_tell_98b, eX2_tell_98c, eX2_tell_99, eX2_tell_99x, eX2_tell_100, eX2_tell_101, eX2_tell_103, eX2_tell_103x, eX2_tell_104, eX2_tell_105, eX2_tell_106, eX2_tell_107, eX2_tell_110, eX2_tell_113a, eX2_tell_113b, eX2_tell_113c, eX2_tell_114, eX2_tell_114x, eX2_tell_115, eX2_tell_116, eX2_tell_118, eX2_tell_121a, eX2_tell_121b, eX2_tell_121c, eX2_tell_122, eX2_tell_122x, eX2_tell_123, eX2_tell_124, eX2_tell_126, eX2_tell_128, eX2_tell_131a, eX2_tell_131b, eX2_tell_131c, eX2_tell_132, eX2_tell_132x, eX2_tell_133, eX2_tell_134, eX2_tell_136, eX2_tell_139a, eX2_tell_139b, eX2_tell_139c, eX2_tell_140, eX2_tell_140x, eX2_tell_141, eX2_tell_142, eX2_tell_143, eX2_tell_144, eX2_tell_147, eX2_tell_147x, eX2_tell_148, eX2_tell_151a, eX2_tell_151b, eX2_tell_151c, evb_some, evm_some, evc_some, evc_none, gd, if_true, if_false, eq_self, and_self, and_true, true_and, ne_eq, not_false_eq_true, or_true, true_or, cf0_0, cf0_1, cf0_2, cf0_3, cf0_4, cf0_5, cf0_6, cf23_0, cf23_1, cf23_2, cf23_3, cf48_0, cf48_1, cf50_0, cf50_1, cg0, cg23, cg48, cg50, cg1, cg12, cg24, cg35, Int.reduceEq, Int.reduceLT, Int.reduceLE, ↓reduceIte, p1, p2, p3, hdd, hla, b, hc, hc2, gX_y (show 1 ≤ 8 ∧ 8 ≤ 8 by decide), hi, hnn (p + 3) (by omega), hA]
      rfl
    · rw [if_neg q]
      have hA := m_addPersonN (X := X) (mem := mem) (n := n) (t := t) (la := la) (g := g) (d := d) (k := kof (c : Int)) (f := dg (g.2 1) S (p + 2)) (p := nu (g.2 1) S (p + 3)) h6.1 q
      simp only [eX2_tell_0, eX2_tell_0x, eX2_tell_1, eX2_tell_2, eX2_tell_3, eX2_tell_4, eX2_tell_7, eX2_tell_8, eX2_tell_8x, eX2_tell_9, eX2_tell_10, eX2_tell_11, eX2_tell_12, eX2_tell_15, eX2_tell_17, eX2_tell_17x, eX2_tell_18, eX2_tell_19, eX2_tell_22, eX2_tell_72, eX2_tell_72x, eX2_tell_73, eX2_tell_75, eX2_tell_75x, eX2_tell_76, eX2_tell_77, eX2_tell_78, eX2_tell_79, eX2_tell_82, eX2_tell_83, eX2_tell_86, eX2_tell_88, eX2_tell_88x, eX2_tell_89, eX2_tell_90, eX2_tell_91, eX2_tell_92, eX2_tell_95, eX2_tell_98a, eX2_tell_98b, eX2_tell_98c, eX2_tell_99, eX2_tell_99x, eX2_tell_100, eX2_tell_101, eX2_tell_103, eX2_tell_103x, eX2_tell_104, eX2_tell_105, eX2_tell_106, eX2_tell_107, eX2_tell_110, eX2_tell_113a, eX2_tell_113b, eX2_tell_113c, eX2_tell_114, eX2_tell_114x, eX2_tell_115, eX2_tell_116, eX2_tell_118, eX2_tell_121a, eX2_tell_121b, eX2_tell_121c, eX2_tell_122, eX2_tell_122x, eX2_tell_123, eX2_tell_124, eX2_tell_126, eX2_tell_128, eX2_tell_131a, eX2_tell_131b, eX2_tell_131c, eX2_tell_132, eX2_tell_132x, eX2_tell_133, eX2_tell_134, eX2_tell_136, eX2_tell_139a, eX2_tell_139b, eX2_tell_139c, eX2_tell_140, eX2_tell_140x, eX2_tell_141, eX2_tell_142, eX2_tell_143, eX2_tell_144, eX2_tell_147, eX2_tell_147x, eX2_tell_148, eX2_tell_151a, eX2_tell_151b, eX2_tell_151c, evb_some, evm_some, evc_some, evc_none, gd, if_true, if_false, eq_self, and_self, and_true, true_and, ne_eq, not_false_eq_true, or_true, true_or, cf0_0, cf0_1, cf0_2, cf0_3, cf0_4, cf0_5, cf0_6, cf23_0, cf23_1, cf23_2, cf23_3, cf48_0, cf48_1, cf50_0, cf50_1, cg0, cg23, cg48, cg50, cg1, cg12, cg24, cg35, Int.reduceEq, Int.reduceLT, Int.reduceLE, ↓reduceIte, p1, p2, p3, hdd, hla, b, hc, hc2, gX_y (show 1 ≤ 8 ∧ 8 ≤ 8 by decide), hi, hnn (p + 3) (by omega), hA]
      rfl
  · rw [if_neg (by omega), if_pos b]
    have d1 := hnl _ f1
    have d2 := hnl _ f2
    obtain ⟨i, hi⟩ := n2i d1.1
    obtain ⟨j, hj⟩ := n2i d2.1
    rw [hi, hj]
    by_cases q : PR d (i : Int) (j : Int)
    · rw [if_pos q, Int.toNat_natCast, Int.toNat_natCast]
      have hA := m_setHate (X := X) (mem := mem) (n := n) (t := t) (la := la) (g := g) (d := d) (i := i) (j := j) (v := nu (g.2 1) S (p + 3)) h.1 h6.2 q.2.1 q.2.2.2.1 (fun z => q.2.2.2.2 (by rw [z]))
      simp only [eX2_tell_0, eX2_tell_0x, eX2_tell_1, eX2_tell_2, eX2_tell_3, eX2_tell_4, eX2_tell_7, eX2_tell_8, eX2_tell_8x, eX2_tell_9, eX2_tell_10, eX2_tell_11, eX2_tell_12, eX2_tell_15, eX2_tell_17, eX2_tell_17x, eX2_tell_18, eX2_tell_19, eX2_tell_22, eX2_tell_72, eX2_tell_72x, eX2_tell_73, eX2_tell_75, eX2_tell_75x, eX2_tell_76, eX2_tell_77, eX2_tell_78, eX2_tell_79, eX2_tell_82, eX2_tell_83, eX2_tell_86, eX2_tell_88, eX2_tell_88x, eX2_tell_89, eX2_tell_90, eX2_tell_91, eX2_tell_92, eX2_tell_95, eX2_tell_98a, eX2_tell_98b, eX2_tell_98c, eX2_tell_99, eX2_tell_99x, eX2_tell_100, eX2_tell_101, eX2_tell_103, eX2_tell_103x, eX2_tell_104, eX2_tell_105, eX2_tell_106, eX2_tell_107, eX2_tell_110, eX2_tell_113a, eX2_tell_113b, eX2_tell_113c, eX2_tell_114, eX2_tell_114x, eX2_tell_115, eX2_tell_116, eX2_tell_118, eX2_tell_121a, eX2_tell_121b, eX2_tell_121c, eX2_tell_122, eX2_tell_122x, eX2_tell_123, eX2_tell_124, eX2_tell_126, eX2_tell_128, eX2_tell_131a, eX2_tell_131b, eX2_tell_131c, eX2_tell_132, eX2_tell_132x, eX2_tell_133, eX2_tell_134, eX2_tell_136, eX2_tell_139a, eX2_tell_139b, eX2_tell_139c, eX2_tell_140, eX2_tell_140x, eX2_tell_141, eX2_tell_142, eX2_tell_143, eX2_tell_144, eX2_tell_147, eX2_tell_147x, eX2_tell_148, eX2_tell_151a, eX2_tell_151b, eX2_tell_151c, evb_some, evm_some, evc_some, evc_none, gd, if_true, if_false, eq_self, and_self, and_true, true_and, ne_eq, not_false_eq_true, or_true, true_or, cf0_0, cf0_1, cf0_2, cf0_3, cf0_4, cf0_5, cf0_6, cf23_0, cf23_1, cf23_2, cf23_3, cf48_0, cf48_1, cf50_0, cf50_1, cg0, cg23, cg48, cg50, cg1, cg12, cg24, cg35, Int.reduceEq, Int.reduceLT, Int.reduceLE, ↓reduceIte, p1, p2, p3, hdd, hla, b, hi, hj, hnn (p + 3) (by omega), hA]
      rfl
    · rw [if_neg q]
      have hA := m_setHateNo (X := X) (mem := mem) (n := n) (t := t) (la := la) (g := g) (d := d) (i := (i : Int)) (j := (j : Int)) (v := nu (g.2 1) S (p + 3)) q
      simp only [eX2_tell_0, eX2_tell_0x, eX2_tell_1, eX2_tell_2, eX2_tell_3, eX2_tell_4, eX2_tell_7, eX2_tell_8, eX2_tell_8x, eX2_tell_9, eX2_tell_10, eX2_tell_11, eX2_tell_12, eX2_tell_15, eX2_tell_17, eX2_tell_17x, eX2_tell_18, eX2_tell_19, eX2_tell_22, eX2_tell_72, eX2_tell_72x, eX2_tell_73, eX2_tell_75, eX2_tell_75x, eX2_tell_76, eX2_tell_77, eX2_tell_78, eX2_tell_79, eX2_tell_82, eX2_tell_83, eX2_tell_86, eX2_tell_88, eX2_tell_88x, eX2_tell_89, eX2_tell_90, eX2_tell_91, eX2_tell_92, eX2_tell_95, eX2_tell_98a, eX2_tell_98b, eX2_tell_98c, eX2_tell_99, eX2_tell_99x, eX2_tell_100, eX2_tell_101, eX2_tell_103, eX2_tell_103x, eX2_tell_104, eX2_tell_105, eX2_tell_106, eX2_tell_107, eX2_tell_110, eX2_tell_113a, eX2_tell_113b, eX2_tell_113c, eX2_tell_114, eX2_tell_114x, eX2_tell_115, eX2_tell_116, eX2_tell_118, eX2_tell_121a, eX2_tell_121b, eX2_tell_121c, eX2_tell_122, eX2_tell_122x, eX2_tell_123, eX2_tell_124, eX2_tell_126, eX2_tell_128, eX2_tell_131a, eX2_tell_131b, eX2_tell_131c, eX2_tell_132, eX2_tell_132x, eX2_tell_133, eX2_tell_134, eX2_tell_136, eX2_tell_139a, eX2_tell_139b, eX2_tell_139c, eX2_tell_140, eX2_tell_140x, eX2_tell_141, eX2_tell_142, eX2_tell_143, eX2_tell_144, eX2_tell_147, eX2_tell_147x, eX2_tell_148, eX2_tell_151a, eX2_tell_151b, eX2_tell_151c, evb_some, evm_some, evc_some, evc_none, gd, if_true, if_false, eq_self, and_self, and_true, true_and, ne_eq, not_false_eq_true, or_true, true_or, cf0_0, cf0_1, cf0_2, cf0_3, cf0_4, cf0_5, cf0_6, cf23_0, cf23_1, cf23_2, cf23_3, cf48_0, cf48_1, cf50_0, cf50_1, cg0, cg23, cg48, cg50, cg1, cg12, cg24, cg35, Int.reduceEq, Int.reduceLT, Int.reduceLE, ↓reduceIte, p1, p2, p3, hdd, hla, b, hi, hj, hnn (p + 3) (by omega), hA]
      rfl
  · rw [if_neg (by omega), if_neg (by omega)]
    have d1 := hnl _ f1
    have d2 := hnl _ f2
    rcases b with b | b | b | b
    · rw [if_pos b]
      by_cases q : d.1 1 < 8 ∧ 0 ≤ dg (g.2 1) S (p + 1) ∧ dg (g.2 1) S (p + 1) < d.1 0
      · rw [if_pos q]
        have hA := m_addParcel (X := X) (mem := mem) (n := n) (t := t) (la := la) (g := g) (d := d) (p := dg (g.2 1) S (p + 1)) (v := dg (g.2 1) S (p + 2)) h.1 h8.1 q.2 q.1
        simp only [eX2_tell_0, eX2_tell_0x, eX2_tell_1, eX2_tell_2, eX2_tell_3, eX2_tell_4, eX2_tell_7, eX2_tell_8, eX2_tell_8x, eX2_tell_9, eX2_tell_10, eX2_tell_11, eX2_tell_12, eX2_tell_15, eX2_tell_17, eX2_tell_17x, eX2_tell_18, eX2_tell_19, eX2_tell_22, eX2_tell_72, eX2_tell_72x, eX2_tell_73, eX2_tell_75, eX2_tell_75x, eX2_tell_76, eX2_tell_77, eX2_tell_78, eX2_tell_79, eX2_tell_82, eX2_tell_83, eX2_tell_86, eX2_tell_88, eX2_tell_88x, eX2_tell_89, eX2_tell_90, eX2_tell_91, eX2_tell_92, eX2_tell_95, eX2_tell_98a, eX2_tell_98b, eX2_tell_98c, eX2_tell_99, eX2_tell_99x, eX2_tell_100, eX2_tell_101, eX2_tell_103, eX2_tell_103x, eX2_tell_104, eX2_tell_105, eX2_tell_106, eX2_tell_107, eX2_tell_110, eX2_tell_113a, eX2_tell_113b, eX2_tell_113c, eX2_tell_114, eX2_tell_114x, eX2_tell_115, eX2_tell_116, eX2_tell_118, eX2_tell_121a, eX2_tell_121b, eX2_tell_121c, eX2_tell_122, eX2_tell_122x, eX2_tell_123, eX2_tell_124, eX2_tell_126, eX2_tell_128, eX2_tell_131a, eX2_tell_131b, eX2_tell_131c, eX2_tell_132, eX2_tell_132x, eX2_tell_133, eX2_tell_134, eX2_tell_136, eX2_tell_139a, eX2_tell_139b, eX2_tell_139c, eX2_tell_140, eX2_tell_140x, eX2_tell_141, eX2_tell_142, eX2_tell_143, eX2_tell_144, eX2_tell_147, eX2_tell_147x, eX2_tell_148, eX2_tell_151a, eX2_tell_151b, eX2_tell_151c, evb_some, evm_some, evc_some, evc_none, gd, if_true, if_false, eq_self, and_self, and_true, true_and, ne_eq, not_false_eq_true, or_true, true_or, cf0_0, cf0_1, cf0_2, cf0_3, cf0_4, cf0_5, cf0_6, cf23_0, cf23_1, cf23_2, cf23_3, cf48_0, cf48_1, cf50_0, cf50_1, cg0, cg23, cg48, cg50, cg1, cg12, cg24, cg35, Int.reduceEq, Int.reduceLT, Int.reduceLE, ↓reduceIte, p1, p2, p3, hdd, hla, b, hA]
        rfl
      · rw [if_neg q]
        have hA := m_addParcelN (X := X) (mem := mem) (n := n) (t := t) (la := la) (g := g) (d := d) (p := dg (g.2 1) S (p + 1)) (v := dg (g.2 1) S (p + 2)) q h8.1
        simp only [eX2_tell_0, eX2_tell_0x, eX2_tell_1, eX2_tell_2, eX2_tell_3, eX2_tell_4, eX2_tell_7, eX2_tell_8, eX2_tell_8x, eX2_tell_9, eX2_tell_10, eX2_tell_11, eX2_tell_12, eX2_tell_15, eX2_tell_17, eX2_tell_17x, eX2_tell_18, eX2_tell_19, eX2_tell_22, eX2_tell_72, eX2_tell_72x, eX2_tell_73, eX2_tell_75, eX2_tell_75x, eX2_tell_76, eX2_tell_77, eX2_tell_78, eX2_tell_79, eX2_tell_82, eX2_tell_83, eX2_tell_86, eX2_tell_88, eX2_tell_88x, eX2_tell_89, eX2_tell_90, eX2_tell_91, eX2_tell_92, eX2_tell_95, eX2_tell_98a, eX2_tell_98b, eX2_tell_98c, eX2_tell_99, eX2_tell_99x, eX2_tell_100, eX2_tell_101, eX2_tell_103, eX2_tell_103x, eX2_tell_104, eX2_tell_105, eX2_tell_106, eX2_tell_107, eX2_tell_110, eX2_tell_113a, eX2_tell_113b, eX2_tell_113c, eX2_tell_114, eX2_tell_114x, eX2_tell_115, eX2_tell_116, eX2_tell_118, eX2_tell_121a, eX2_tell_121b, eX2_tell_121c, eX2_tell_122, eX2_tell_122x, eX2_tell_123, eX2_tell_124, eX2_tell_126, eX2_tell_128, eX2_tell_131a, eX2_tell_131b, eX2_tell_131c, eX2_tell_132, eX2_tell_132x, eX2_tell_133, eX2_tell_134, eX2_tell_136, eX2_tell_139a, eX2_tell_139b, eX2_tell_139c, eX2_tell_140, eX2_tell_140x, eX2_tell_141, eX2_tell_142, eX2_tell_143, eX2_tell_144, eX2_tell_147, eX2_tell_147x, eX2_tell_148, eX2_tell_151a, eX2_tell_151b, eX2_tell_151c, evb_some, evm_some, evc_some, evc_none, gd, if_true, if_false, eq_self, and_self, and_true, true_and, ne_eq, not_false_eq_true, or_true, true_or, cf0_0, cf0_1, cf0_2, cf0_3, cf0_4, cf0_5, cf0_6, cf23_0, cf23_1, cf23_2, cf23_3, cf48_0, cf48_1, cf50_0, cf50_1, cg0, cg23, cg48, cg50, cg1, cg12, cg24, cg35, Int.reduceEq, Int.reduceLT, Int.reduceLE, ↓reduceIte, p1, p2, p3, hdd, hla, b, hA]
        rfl
    · rw [if_neg (by omega), if_pos b]
      obtain ⟨i, hi⟩ := n2i d1.1
      obtain ⟨j, hj⟩ := n2i d2.1
      rw [hi, hj]
      by_cases q : PR d (i : Int) (j : Int)
      · rw [if_pos q, Int.toNat_natCast, Int.toNat_natCast]
        have hA := m_addHate (X := X) (mem := mem) (n := n) (t := t) (la := la) (g := g) (d := d) (i := i) (j := j) (x := 10) (z := vS) h.1 h6.2 q.2.1 q.2.2.2.1 (fun z => q.2.2.2.2 (by rw [z]))
        simp only [eX2_tell_0, eX2_tell_0x, eX2_tell_1, eX2_tell_2, eX2_tell_3, eX2_tell_4, eX2_tell_7, eX2_tell_8, eX2_tell_8x, eX2_tell_9, eX2_tell_10, eX2_tell_11, eX2_tell_12, eX2_tell_15, eX2_tell_17, eX2_tell_17x, eX2_tell_18, eX2_tell_19, eX2_tell_22, eX2_tell_72, eX2_tell_72x, eX2_tell_73, eX2_tell_75, eX2_tell_75x, eX2_tell_76, eX2_tell_77, eX2_tell_78, eX2_tell_79, eX2_tell_82, eX2_tell_83, eX2_tell_86, eX2_tell_88, eX2_tell_88x, eX2_tell_89, eX2_tell_90, eX2_tell_91, eX2_tell_92, eX2_tell_95, eX2_tell_98a, eX2_tell_98b, eX2_tell_98c, eX2_tell_99, eX2_tell_99x, eX2_tell_100, eX2_tell_101, eX2_tell_103, eX2_tell_103x, eX2_tell_104, eX2_tell_105, eX2_tell_106, eX2_tell_107, eX2_tell_110, eX2_tell_113a, eX2_tell_113b, eX2_tell_113c, eX2_tell_114, eX2_tell_114x, eX2_tell_115, eX2_tell_116, eX2_tell_118, eX2_tell_121a, eX2_tell_121b, eX2_tell_121c, eX2_tell_122, eX2_tell_122x, eX2_tell_123, eX2_tell_124, eX2_tell_126, eX2_tell_128, eX2_tell_131a, eX2_tell_131b, eX2_tell_131c, eX2_tell_132, eX2_tell_132x, eX2_tell_133, eX2_tell_134, eX2_tell_136, eX2_tell_139a, eX2_tell_139b, eX2_tell_139c, eX2_tell_140, eX2_tell_140x, eX2_tell_141, eX2_tell_142, eX2_tell_143, eX2_tell_144, eX2_tell_147, eX2_tell_147x, eX2_tell_148, eX2_tell_151a, eX2_tell_151b, eX2_tell_151c, evb_some, evm_some, evc_some, evc_none, gd, if_true, if_false, eq_self, and_self, and_true, true_and, ne_eq, not_false_eq_true, or_true, true_or, cf0_0, cf0_1, cf0_2, cf0_3, cf0_4, cf0_5, cf0_6, cf23_0, cf23_1, cf23_2, cf23_3, cf48_0, cf48_1, cf50_0, cf50_1, cg0, cg23, cg48, cg50, cg1, cg12, cg24, cg35, Int.reduceEq, Int.reduceLT, Int.reduceLE, ↓reduceIte, p1, p2, p3, hdd, hla, b, hi, hj, hA]
        rfl
      · rw [if_neg q]
        have hA := m_addHateNo (X := X) (mem := mem) (n := n) (t := t) (la := la) (g := g) (d := d) (i := (i : Int)) (j := (j : Int)) (x := 10) (z := vS) q
        simp only [eX2_tell_0, eX2_tell_0x, eX2_tell_1, eX2_tell_2, eX2_tell_3, eX2_tell_4, eX2_tell_7, eX2_tell_8, eX2_tell_8x, eX2_tell_9, eX2_tell_10, eX2_tell_11, eX2_tell_12, eX2_tell_15, eX2_tell_17, eX2_tell_17x, eX2_tell_18, eX2_tell_19, eX2_tell_22, eX2_tell_72, eX2_tell_72x, eX2_tell_73, eX2_tell_75, eX2_tell_75x, eX2_tell_76, eX2_tell_77, eX2_tell_78, eX2_tell_79, eX2_tell_82, eX2_tell_83, eX2_tell_86, eX2_tell_88, eX2_tell_88x, eX2_tell_89, eX2_tell_90, eX2_tell_91, eX2_tell_92, eX2_tell_95, eX2_tell_98a, eX2_tell_98b, eX2_tell_98c, eX2_tell_99, eX2_tell_99x, eX2_tell_100, eX2_tell_101, eX2_tell_103, eX2_tell_103x, eX2_tell_104, eX2_tell_105, eX2_tell_106, eX2_tell_107, eX2_tell_110, eX2_tell_113a, eX2_tell_113b, eX2_tell_113c, eX2_tell_114, eX2_tell_114x, eX2_tell_115, eX2_tell_116, eX2_tell_118, eX2_tell_121a, eX2_tell_121b, eX2_tell_121c, eX2_tell_122, eX2_tell_122x, eX2_tell_123, eX2_tell_124, eX2_tell_126, eX2_tell_128, eX2_tell_131a, eX2_tell_131b, eX2_tell_131c, eX2_tell_132, eX2_tell_132x, eX2_tell_133, eX2_tell_134, eX2_tell_136, eX2_tell_139a, eX2_tell_139b, eX2_tell_139c, eX2_tell_140, eX2_tell_140x, eX2_tell_141, eX2_tell_142, eX2_tell_143, eX2_tell_144, eX2_tell_147, eX2_tell_147x, eX2_tell_148, eX2_tell_151a, eX2_tell_151b, eX2_tell_151c, evb_some, evm_some, evc_some, evc_none, gd, if_true, if_false, eq_self, and_self, and_true, true_and, ne_eq, not_false_eq_true, or_true, true_or, cf0_0, cf0_1, cf0_2, cf0_3, cf0_4, cf0_5, cf0_6, cf23_0, cf23_1, cf23_2, cf23_3, cf48_0, cf48_1, cf50_0, cf50_1, cg0, cg23, cg48, cg50, cg1, cg12, cg24, cg35, Int.reduceEq, Int.reduceLT, Int.reduceLE, ↓reduceIte, p1, p2, p3, hdd, hla, b, hi, hj, hA]
        rfl
    · rw [if_neg (by omega), if_neg (by omega), if_pos b]
      obtain ⟨i, hi⟩ := n2i d1.1
      obtain ⟨j, hj⟩ := n2i d2.1
      rw [hi, hj]
      by_cases q : PR d (i : Int) (j : Int)
      · rw [if_pos q, Int.toNat_natCast, Int.toNat_natCast]
        have hA := m_makePeace (X := X) (mem := mem) (n := n) (t := t) (la := la) (g := g) (d := d) (i := i) (j := j) h.1 h6.2 q.2.1 q.2.2.2.1 (fun z => q.2.2.2.2 (by rw [z]))
        simp only [eX2_tell_0, eX2_tell_0x, eX2_tell_1, eX2_tell_2, eX2_tell_3, eX2_tell_4, eX2_tell_7, eX2_tell_8, eX2_tell_8x, eX2_tell_9, eX2_tell_10, eX2_tell_11, eX2_tell_12, eX2_tell_15, eX2_tell_17, eX2_tell_17x, eX2_tell_18, eX2_tell_19, eX2_tell_22, eX2_tell_72, eX2_tell_72x, eX2_tell_73, eX2_tell_75, eX2_tell_75x, eX2_tell_76, eX2_tell_77, eX2_tell_78, eX2_tell_79, eX2_tell_82, eX2_tell_83, eX2_tell_86, eX2_tell_88, eX2_tell_88x, eX2_tell_89, eX2_tell_90, eX2_tell_91, eX2_tell_92, eX2_tell_95, eX2_tell_98a, eX2_tell_98b, eX2_tell_98c, eX2_tell_99, eX2_tell_99x, eX2_tell_100, eX2_tell_101, eX2_tell_103, eX2_tell_103x, eX2_tell_104, eX2_tell_105, eX2_tell_106, eX2_tell_107, eX2_tell_110, eX2_tell_113a, eX2_tell_113b, eX2_tell_113c, eX2_tell_114, eX2_tell_114x, eX2_tell_115, eX2_tell_116, eX2_tell_118, eX2_tell_121a, eX2_tell_121b, eX2_tell_121c, eX2_tell_122, eX2_tell_122x, eX2_tell_123, eX2_tell_124, eX2_tell_126, eX2_tell_128, eX2_tell_131a, eX2_tell_131b, eX2_tell_131c, eX2_tell_132, eX2_tell_132x, eX2_tell_133, eX2_tell_134, eX2_tell_136, eX2_tell_139a, eX2_tell_139b, eX2_tell_139c, eX2_tell_140, eX2_tell_140x, eX2_tell_141, eX2_tell_142, eX2_tell_143, eX2_tell_144, eX2_tell_147, eX2_tell_147x, eX2_tell_148, eX2_tell_151a, eX2_tell_151b, eX2_tell_151c, evb_some, evm_some, evc_some, evc_none, gd, if_true, if_false, eq_self, and_self, and_true, true_and, ne_eq, not_false_eq_true, or_true, true_or, cf0_0, cf0_1, cf0_2, cf0_3, cf0_4, cf0_5, cf0_6, cf23_0, cf23_1, cf23_2, cf23_3, cf48_0, cf48_1, cf50_0, cf50_1, cg0, cg23, cg48, cg50, cg1, cg12, cg24, cg35, Int.reduceEq, Int.reduceLT, Int.reduceLE, ↓reduceIte, p1, p2, p3, hdd, hla, b, hi, hj, hA]
        rfl
      · rw [if_neg q]
        have hA := m_makePeaceNo (X := X) (mem := mem) (n := n) (t := t) (la := la) (g := g) (d := d) (i := (i : Int)) (j := (j : Int)) q
        simp only [eX2_tell_0, eX2_tell_0x, eX2_tell_1, eX2_tell_2, eX2_tell_3, eX2_tell_4, eX2_tell_7, eX2_tell_8, eX2_tell_8x, eX2_tell_9, eX2_tell_10, eX2_tell_11, eX2_tell_12, eX2_tell_15, eX2_tell_17, eX2_tell_17x, eX2_tell_18, eX2_tell_19, eX2_tell_22, eX2_tell_72, eX2_tell_72x, eX2_tell_73, eX2_tell_75, eX2_tell_75x, eX2_tell_76, eX2_tell_77, eX2_tell_78, eX2_tell_79, eX2_tell_82, eX2_tell_83, eX2_tell_86, eX2_tell_88, eX2_tell_88x, eX2_tell_89, eX2_tell_90, eX2_tell_91, eX2_tell_92, eX2_tell_95, eX2_tell_98a, eX2_tell_98b, eX2_tell_98c, eX2_tell_99, eX2_tell_99x, eX2_tell_100, eX2_tell_101, eX2_tell_103, eX2_tell_103x, eX2_tell_104, eX2_tell_105, eX2_tell_106, eX2_tell_107, eX2_tell_110, eX2_tell_113a, eX2_tell_113b, eX2_tell_113c, eX2_tell_114, eX2_tell_114x, eX2_tell_115, eX2_tell_116, eX2_tell_118, eX2_tell_121a, eX2_tell_121b, eX2_tell_121c, eX2_tell_122, eX2_tell_122x, eX2_tell_123, eX2_tell_124, eX2_tell_126, eX2_tell_128, eX2_tell_131a, eX2_tell_131b, eX2_tell_131c, eX2_tell_132, eX2_tell_132x, eX2_tell_133, eX2_tell_134, eX2_tell_136, eX2_tell_139a, eX2_tell_139b, eX2_tell_139c, eX2_tell_140, eX2_tell_140x, eX2_tell_141, eX2_tell_142, eX2_tell_143, eX2_tell_144, eX2_tell_147, eX2_tell_147x, eX2_tell_148, eX2_tell_151a, eX2_tell_151b, eX2_tell_151c, evb_some, evm_some, evc_some, evc_none, gd, if_true, if_false, eq_self, and_self, and_true, true_and, ne_eq, not_false_eq_true, or_true, true_or, cf0_0, cf0_1, cf0_2, cf0_3, cf0_4, cf0_5, cf0_6, cf23_0, cf23_1, cf23_2, cf23_3, cf48_0, cf48_1, cf50_0, cf50_1, cg0, cg23, cg48, cg50, cg1, cg12, cg24, cg35, Int.reduceEq, Int.reduceLT, Int.reduceLE, ↓reduceIte, p1, p2, p3, hdd, hla, b, hi, hj, hA]
        rfl
    · rw [if_neg (by omega), if_neg (by omega), if_neg (by omega)]
      have hnb : 0 ≤ nu (g.2 1) S (p + 1) := by
        have := hnl _ f2
        unfold nu
        show 0 ≤ 10 * dg (g.2 1) S (p + 1) + dg (g.2 1) S (p + 2)
        omega
      have hA := T2_letDaysPass (X := X) (mem := mem) (n := n) (t := t) (la := la) (g := g) h hnb
      by_cases q : 1 ≤ nu (g.2 1) S (p + 1) ∧ nu (g.2 1) S (p + 1) ≤ 60 ∧ w32 (d.1 2 + nu (g.2 1) S (p + 1)) ≤ 999
      · rw [if_pos q, if_pos q] at hA
        rw [if_pos q]
        simp only [eX2_tell_0, eX2_tell_0x, eX2_tell_1, eX2_tell_2, eX2_tell_3, eX2_tell_4, eX2_tell_7, eX2_tell_8, eX2_tell_8x, eX2_tell_9, eX2_tell_10, eX2_tell_11, eX2_tell_12, eX2_tell_15, eX2_tell_17, eX2_tell_17x, eX2_tell_18, eX2_tell_19, eX2_tell_22, eX2_tell_72, eX2_tell_72x, eX2_tell_73, eX2_tell_75, eX2_tell_75x, eX2_tell_76, eX2_tell_77, eX2_tell_78, eX2_tell_79, eX2_tell_82, eX2_tell_83, eX2_tell_86, eX2_tell_88, eX2_tell_88x, eX2_tell_89, eX2_tell_90, eX2_tell_91, eX2_tell_92, eX2_tell_95, eX2_tell_98a, eX2_tell_98b, eX2_tell_98c, eX2_tell_99, eX2_tell_99x, eX2_tell_100, eX2_tell_101, eX2_tell_103, eX2_tell_103x, eX2_tell_104, eX2_tell_105, eX2_tell_106, eX2_tell_107, eX2_tell_110, eX2_tell_113a, eX2_tell_113b, eX2_tell_113c, eX2_tell_114, eX2_tell_114x, eX2_tell_115, eX2_tell_116, eX2_tell_118, eX2_tell_121a, eX2_tell_121b, eX2_tell_121c, eX2_tell_122, eX2_tell_122x, eX2_tell_123, eX2_tell_124, eX2_tell_126, eX2_tell_128, eX2_tell_131a, eX2_tell_131b, eX2_tell_131c, eX2_tell_132, eX2_tell_132x, eX2_tell_133, eX2_tell_134, eX2_tell_136, eX2_tell_139a, eX2_tell_139b, eX2_tell_139c, eX2_tell_140, eX2_tell_140x, eX2_tell_141, eX2_tell_142, eX2_tell_143, eX2_tell_144, eX2_tell_147, eX2_tell_147x, eX2_tell_148, eX2_tell_151a, eX2_tell_151b, eX2_tell_151c, evb_some, evm_some, evc_some, evc_none, gd, if_true, if_false, eq_self, and_self, and_true, true_and, ne_eq, not_false_eq_true, or_true, true_or, cf0_0, cf0_1, cf0_2, cf0_3, cf0_4, cf0_5, cf0_6, cf23_0, cf23_1, cf23_2, cf23_3, cf48_0, cf48_1, cf50_0, cf50_1, cg0, cg23, cg48, cg50, cg1, cg12, cg24, cg35, Int.reduceEq, Int.reduceLT, Int.reduceLE, ↓reduceIte, p1, p2, p3, hdd, hla, b, hnn (p + 1) (by omega), hA]
        rfl
      · rw [if_neg q, if_neg q] at hA
        rw [if_neg q]
        simp only [eX2_tell_0, eX2_tell_0x, eX2_tell_1, eX2_tell_2, eX2_tell_3, eX2_tell_4, eX2_tell_7, eX2_tell_8, eX2_tell_8x, eX2_tell_9, eX2_tell_10, eX2_tell_11, eX2_tell_12, eX2_tell_15, eX2_tell_17, eX2_tell_17x, eX2_tell_18, eX2_tell_19, eX2_tell_22, eX2_tell_72, eX2_tell_72x, eX2_tell_73, eX2_tell_75, eX2_tell_75x, eX2_tell_76, eX2_tell_77, eX2_tell_78, eX2_tell_79, eX2_tell_82, eX2_tell_83, eX2_tell_86, eX2_tell_88, eX2_tell_88x, eX2_tell_89, eX2_tell_90, eX2_tell_91, eX2_tell_92, eX2_tell_95, eX2_tell_98a, eX2_tell_98b, eX2_tell_98c, eX2_tell_99, eX2_tell_99x, eX2_tell_100, eX2_tell_101, eX2_tell_103, eX2_tell_103x, eX2_tell_104, eX2_tell_105, eX2_tell_106, eX2_tell_107, eX2_tell_110, eX2_tell_113a, eX2_tell_113b, eX2_tell_113c, eX2_tell_114, eX2_tell_114x, eX2_tell_115, eX2_tell_116, eX2_tell_118, eX2_tell_121a, eX2_tell_121b, eX2_tell_121c, eX2_tell_122, eX2_tell_122x, eX2_tell_123, eX2_tell_124, eX2_tell_126, eX2_tell_128, eX2_tell_131a, eX2_tell_131b, eX2_tell_131c, eX2_tell_132, eX2_tell_132x, eX2_tell_133, eX2_tell_134, eX2_tell_136, eX2_tell_139a, eX2_tell_139b, eX2_tell_139c, eX2_tell_140, eX2_tell_140x, eX2_tell_141, eX2_tell_142, eX2_tell_143, eX2_tell_144, eX2_tell_147, eX2_tell_147x, eX2_tell_148, eX2_tell_151a, eX2_tell_151b, eX2_tell_151c, evb_some, evm_some, evc_some, evc_none, gd, if_true, if_false, eq_self, and_self, and_true, true_and, ne_eq, not_false_eq_true, or_true, true_or, cf0_0, cf0_1, cf0_2, cf0_3, cf0_4, cf0_5, cf0_6, cf23_0, cf23_1, cf23_2, cf23_3, cf48_0, cf48_1, cf50_0, cf50_1, cg0, cg23, cg48, cg50, cg1, cg12, cg24, cg35, Int.reduceEq, Int.reduceLT, Int.reduceLE, ↓reduceIte, p1, p2, p3, hdd, hla, b, hnn (p + 1) (by omega), hA]
        rfl
end TE
