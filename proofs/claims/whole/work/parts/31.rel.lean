/-! WHAT HOLDS BETWEEN BOTH; REFUSALS; BOTH ANSWER -/
/-- a refusal is counted -/
def rb (l : List Int) (k : Nat) : List Int := l.set k (w32 (l.getD k 0 + 1))
/-- lengths of the class's other rows -/
def GL (g : ST) : Prop := (g.2 0).length = 7 ∧ (g.2 1).length = 96 ∧ (g.2 2).length = 16 ∧ (g.2 3).length = 4 ∧ (g.2 4).length = 4
/-- lengths of the reference's other rows -/
def ML (g : ST) : Prop := (g.2 0).length = 7 ∧ (g.2 1).length = 96 ∧ (g.2 2).length = 48 ∧ (g.2 3).length = 48 ∧ (g.2 4).length = 144 ∧ (g.2 5).length = 309 ∧ (g.2 6).length = 8 ∧ (g.2 7).length = 16
/-- the relation -/
def Rla (n t mi la g gm : ST) : Prop := DW n ∧ DL t ∧ DL mi ∧ DL la ∧ GL g ∧ ML gm ∧ (g.1 0 = 0 ∨ (g.1 0 = 1 ∧ DW t ∧ KB (gm.2 5) 0 t)) ∧ gm.1 3 = g.1 0 ∧ (0 ≤ g.1 1 ∧ g.1 1 ≤ 96) ∧ gm.1 0 = g.1 1 ∧ (0 ≤ g.1 2 ∧ g.1 2 ≤ 16) ∧ gm.1 6 = g.1 2 ∧ gm.2 0 = g.2 0 ∧ gm.2 1 = g.2 1 ∧ gm.2 7 = g.2 2 ∧ ∀ k : Nat, 0 ≤ (g.2 1).getD k 0 ∧ (g.2 1).getD k 0 ≤ 255
/-- both answer the same and keep the relation -/
def Bth (X : List Int) (mc : MI) (lc : List AV) (mr : MI) (lr : List AV) (mem : AM) (n t mi la g gm : ST) : Prop := ∃ r n' t' mi' la' g' gm', ev X mc 0 (vR 0 :: lc) [] (cpt (mpt mem gm n) n t mi la g) = some (some r, cpt (mpt mem gm n) n' t' mi' la' g') ∧ ev X mr 0 (vR 53 :: lr) [] (mpt (cpt mem n' t' mi' la' g') gm n) = some (some r, mpt (cpt mem n' t' mi' la' g') gm' n') ∧ Rla n' t' mi' la' g' gm'
section RR
variable {X : List Int} {mem : AM} {n t mi la g gm d : ST} {mc mr : MI} {lc lr : List AV}
theorem T4_refuse (hg : GL g) {k : Nat} (hk : 1 ≤ k ∧ k ≤ 6) : ev X m_X4_refuse 0 [vR 0, vI (-(k : Int))] [] (cpt mem n t mi la g) = some (some (vI (-(k : Int))), cpt mem n t mi la (setL g 0 (rb (g.2 0) k))) := by
  have c1 : -(k : Int) < 0 := by omega
  have c2 : ¬ -(k : Int) < -6 := by omega
  have e : w32 (-(-(k : Int))) = (k : Int) := by rw [Int.neg_neg]; exact w32_id (by omega) (by omega)
  have k7 : k < (g.2 0).length := by rw [hg.1]; omega
  simp only [eX4_refuse_0, eX4_refuse_1, eX4_refuse_4, eX4_refuse_5, eX4_refuse_7, eX4_refuse_10, eX4_refuse_11, eX4_refuse_14, eX4_refuse_15, eX4_refuse_16, eX4_refuse_17, eX4_refuse_18, eX4_refuse_19, eX4_refuse_20, eX4_refuse_21, eX4_refuse_22, evb_some, evm_some, evc_some, evc_none, gd, if_true, if_false, eq_self, and_self, and_true, true_and, ne_eq, not_false_eq_true, or_true, true_or, cf0_0, cf0_1, cf0_2, cf0_3, cf0_4, cf0_5, cf0_6, cf23_0, cf23_1, cf23_2, cf23_3, cf48_0, cf48_1, cf50_0, cf50_1, ca46, ca47, ca49, ca51, ca52, cl46, cl47, cl49, cl51, cl52, cw0, cw48, cw50, cx46, cx47, cx49, cx51, cx52, if_pos c1, if_neg c2, e, k7, rb]
theorem T4_no1 (hg : GL g) : ev X m_X4_refuse 0 [vR 0, vI (-1)] [] (cpt mem n t mi la g) = some (some (vI (-1)), cpt mem n t mi la (setL g 0 (rb (g.2 0) 1))) := T4_refuse hg (k := 1) (by decide)
theorem T4_no2 (hg : GL g) : ev X m_X4_refuse 0 [vR 0, vI (-2)] [] (cpt mem n t mi la g) = some (some (vI (-2)), cpt mem n t mi la (setL g 0 (rb (g.2 0) 2))) := T4_refuse hg (k := 2) (by decide)
theorem T4_no3 (hg : GL g) : ev X m_X4_refuse 0 [vR 0, vI (-3)] [] (cpt mem n t mi la g) = some (some (vI (-3)), cpt mem n t mi la (setL g 0 (rb (g.2 0) 3))) := T4_refuse hg (k := 3) (by decide)
theorem T4_no4 (hg : GL g) : ev X m_X4_refuse 0 [vR 0, vI (-4)] [] (cpt mem n t mi la g) = some (some (vI (-4)), cpt mem n t mi la (setL g 0 (rb (g.2 0) 4))) := T4_refuse hg (k := 4) (by decide)
theorem T4_no6 (hg : GL g) : ev X m_X4_refuse 0 [vR 0, vI (-6)] [] (cpt mem n t mi la g) = some (some (vI (-6)), cpt mem n t mi la (setL g 0 (rb (g.2 0) 6))) := T4_refuse hg (k := 6) (by decide)
theorem T5_no (hg : (g.2 0).length = 7) {k : Nat} (hk : 1 ≤ k ∧ k ≤ 6) : ev X m_X5_no 0 [vR 53, vI (-(k : Int))] [] (mpt mem g d) = some (some (vI (-(k : Int))), mpt mem (setL g 0 (rb (g.2 0) k)) d) := by
  have e : w32 (-(-(k : Int))) = (k : Int) := by rw [Int.neg_neg]; exact w32_id (by omega) (by omega)
  have k7 : k < (g.2 0).length := by rw [hg]; omega
  simp only [eX5_no_0, eX5_no_1, eX5_no_4, eX5_no_5, eX5_no_6, eX5_no_7, eX5_no_8, eX5_no_9, eX5_no_10, eX5_no_11, eX5_no_12, evb_some, evm_some, evc_some, evc_none, gd, if_true, if_false, eq_self, and_self, and_true, true_and, ne_eq, not_false_eq_true, or_true, true_or, mg, mf0, mf1, mf2, mf3, mf4, mf5, mf6, mf7, mf8, mf9, mf10, mf11, mf12, mf13, mf14, mf15, mf16, mf17, mf18, mf19, mf20, mf21, mf22, mf23, mf24, mf25, mf26, mf27, ma54, ma55, ma56, ma57, ma58, ma59, ma60, ma61, ma62, ma63, ma64, ma65, ma66, ma67, ma68, ma69, ma70, ma71, mw11, mw12, mw13, mw18, mw19, mw20, mw22, mw23, mw24, mw27, mx54, mx55, mx56, mx57, mx58, mx59, mx60, mx61, mx62, mx63, mx64, mx65, mx66, mx67, mx68, mx69, mx70, mx71, e, k7, rb]
theorem T5_no1 (hg : ML g) : ev X m_X5_no 0 [vR 53, vI (-1)] [] (mpt mem g d) = some (some (vI (-1)), mpt mem (setL g 0 (rb (g.2 0) 1)) d) := T5_no hg.1 (k := 1) (by decide)
theorem T5_no2 (hg : ML g) : ev X m_X5_no 0 [vR 53, vI (-2)] [] (mpt mem g d) = some (some (vI (-2)), mpt mem (setL g 0 (rb (g.2 0) 2)) d) := T5_no hg.1 (k := 2) (by decide)
theorem T5_no3 (hg : ML g) : ev X m_X5_no 0 [vR 53, vI (-3)] [] (mpt mem g d) = some (some (vI (-3)), mpt mem (setL g 0 (rb (g.2 0) 3)) d) := T5_no hg.1 (k := 3) (by decide)
theorem T5_no4 (hg : ML g) : ev X m_X5_no 0 [vR 53, vI (-4)] [] (mpt mem g d) = some (some (vI (-4)), mpt mem (setL g 0 (rb (g.2 0) 4)) d) := T5_no hg.1 (k := 4) (by decide)
theorem T5_no6 (hg : ML g) : ev X m_X5_no 0 [vR 53, vI (-6)] [] (mpt mem g d) = some (some (vI (-6)), mpt mem (setL g 0 (rb (g.2 0) 6)) d) := T5_no hg.1 (k := 6) (by decide)
theorem DL_0 (h : Rla n t mi la g gm) : DW n := h.1
theorem Rla_g (h : Rla n t mi la g gm) : GL g := h.2.2.2.2.1
theorem Rla_m (h : Rla n t mi la g gm) : ML gm := h.2.2.2.2.2.1
theorem Rla_k (h : Rla n t mi la g gm) : (gm.2 5).length = 309 := h.2.2.2.2.2.1.2.2.2.2.2.1
theorem rb_len (l : List Int) (k : Nat) : (rb l k).length = l.length := List.length_set ..
theorem Rla_no (h : Rla n t mi la g gm) (k : Nat) : Rla n t mi la (setL g 0 (rb (g.2 0) k)) (setL gm 0 (rb (gm.2 0) k)) := by
  obtain ⟨h1, h2, h3, h4, ⟨l0, l1, l2, l3, l4⟩, ⟨m0, m1, m2, m3, m4, m5, m6, m7⟩, h5, h6, h7, h8, h9, h10, h11, h12, h13, h14⟩ := h
  refine ⟨h1, h2, h3, h4, ⟨(rb_len _ _).trans l0, l1, l2, l3, l4⟩, ⟨(rb_len _ _).trans m0, m1, m2, m3, m4, m5, m6, m7⟩, h5, h6, h7, h8, h9, h10, ?_, h12, h13, h14⟩
  show rb (gm.2 0) k = rb (g.2 0) k
  rw [h11]
/-- a question -/
theorem Rla_q {mi' la' gm' : ST} (h : Rla n t mi la g gm) (h1 : DL mi') (h2 : DL la') (hq : GQ gm gm' 103) : Rla n t mi' la' g gm' := by
  obtain ⟨a1, a2, a3, a4, a5, ⟨m0, m1, m2, m3, m4, m5, m6, m7⟩, h5, h6, h7, h8, h9, h10, h11, h12, h13, h14⟩ := h
  obtain ⟨q1, q2, q3, q4⟩ := hq
  refine ⟨a1, a2, h1, h2, a5, ⟨by rw [q2 0 (by decide)]; exact m0, by rw [q2 1 (by decide)]; exact m1, by rw [q2 2 (by decide)]; exact m2, by rw [q2 3 (by decide)]; exact m3, by rw [q2 4 (by decide)]; exact m4, q3, by rw [q2 6 (by decide)]; exact m6, by rw [q2 7 (by decide)]; exact m7⟩, ?_, by rw [q1 3 (by decide) (by decide)]; exact h6, h7, by rw [q1 0 (by decide) (by decide)]; exact h8, h9, by rw [q1 6 (by decide) (by decide)]; exact h10, by rw [q2 0 (by decide)]; exact h11, by rw [q2 1 (by decide)]; exact h12, by rw [q2 7 (by decide)]; exact h13, h14⟩
  rcases h5 with h5 | ⟨b1, b2, b3⟩
  · exact Or.inl h5
  · exact Or.inr ⟨b1, b2, KB_of b3 (fun j _ hj => q4 j (by omega))⟩
/-- the duchy becomes another, in both -/
theorem Rla_n {n' mi' la' gm' : ST} (h : Rla n t mi la g gm) (h0 : DW n') (h1 : DL mi') (h2 : DL la') (hq : GQ gm gm' 103) : Rla n' t mi' la' g gm' := by
  have h3 := Rla_q h h1 h2 hq
  exact ⟨h0, h3.2⟩
theorem Bth_q {r : AV} {mi' la' gm' : ST} (h : Rla n t mi la g gm) (h1 : DL mi') (h2 : DL la') (hq : GQ gm gm' 103) (hc : ∀ M, ev X mc 0 (vR 0 :: lc) [] (cpt M n t mi la g) = some (some r, cpt M n t mi' la' g)) (hr : ∀ M, ev X mr 0 (vR 53 :: lr) [] (mpt M gm n) = some (some r, mpt M gm' n)) : Bth X mc lc mr lr mem n t mi la g gm :=
  ⟨r, n, t, mi', la', g, gm', hc _, hr _, Rla_q h h1 h2 hq⟩
theorem Bth_q0 (r : AV) (h : Rla n t mi la g gm) (hc : ∀ M, ev X mc 0 (vR 0 :: lc) [] (cpt M n t mi la g) = some (some r, cpt M n t mi la g)) (hr : ∀ M, ev X mr 0 (vR 53 :: lr) [] (mpt M gm n) = some (some r, mpt M gm n)) : Bth X mc lc mr lr mem n t mi la g gm :=
  ⟨r, n, t, mi, la, g, gm, hc _, hr _, h⟩
theorem Bth_n (r : AV) (n' : ST) (h : Rla n t mi la g gm) (h0 : DW n') (hc : ∀ M, ev X mc 0 (vR 0 :: lc) [] (cpt M n t mi la g) = some (some r, cpt M n' t mi la g)) (hr : ∀ M, ev X mr 0 (vR 53 :: lr) [] (mpt M gm n) = some (some r, mpt M gm n')) : Bth X mc lc mr lr mem n t mi la g gm :=
  ⟨r, n', t, mi, la, g, gm, hc _, hr _, ⟨h0, h.2⟩⟩
theorem Bth_no (k : Nat) {r : AV} (h : Rla n t mi la g gm) (hc : ∀ M, ev X mc 0 (vR 0 :: lc) [] (cpt M n t mi la g) = some (some r, cpt M n t mi la (setL g 0 (rb (g.2 0) k)))) (hr : ∀ M, ev X mr 0 (vR 53 :: lr) [] (mpt M gm n) = some (some r, mpt M (setL gm 0 (rb (gm.2 0) k)) n)) : Bth X mc lc mr lr mem n t mi la g gm :=
  ⟨r, n, t, mi, la, _, _, hc _, hr _, Rla_no h k⟩
theorem Bth_no1 (h : Rla n t mi la g gm) (hc : ∀ M, ev X mc 0 (vR 0 :: lc) [] (cpt M n t mi la g) = some (some (vI (-1)), cpt M n t mi la (setL g 0 (rb (g.2 0) 1)))) (hr : ∀ M, ev X mr 0 (vR 53 :: lr) [] (mpt M gm n) = some (some (vI (-1)), mpt M (setL gm 0 (rb (gm.2 0) 1)) n)) : Bth X mc lc mr lr mem n t mi la g gm := Bth_no 1 h hc hr
theorem Bth_no2 (h : Rla n t mi la g gm) (hc : ∀ M, ev X mc 0 (vR 0 :: lc) [] (cpt M n t mi la g) = some (some (vI (-2)), cpt M n t mi la (setL g 0 (rb (g.2 0) 2)))) (hr : ∀ M, ev X mr 0 (vR 53 :: lr) [] (mpt M gm n) = some (some (vI (-2)), mpt M (setL gm 0 (rb (gm.2 0) 2)) n)) : Bth X mc lc mr lr mem n t mi la g gm := Bth_no 2 h hc hr
theorem Bth_no3 (h : Rla n t mi la g gm) (hc : ∀ M, ev X mc 0 (vR 0 :: lc) [] (cpt M n t mi la g) = some (some (vI (-3)), cpt M n t mi la (setL g 0 (rb (g.2 0) 3)))) (hr : ∀ M, ev X mr 0 (vR 53 :: lr) [] (mpt M gm n) = some (some (vI (-3)), mpt M (setL gm 0 (rb (gm.2 0) 3)) n)) : Bth X mc lc mr lr mem n t mi la g gm := Bth_no 3 h hc hr
theorem Bth_no4 (h : Rla n t mi la g gm) (hc : ∀ M, ev X mc 0 (vR 0 :: lc) [] (cpt M n t mi la g) = some (some (vI (-4)), cpt M n t mi la (setL g 0 (rb (g.2 0) 4)))) (hr : ∀ M, ev X mr 0 (vR 53 :: lr) [] (mpt M gm n) = some (some (vI (-4)), mpt M (setL gm 0 (rb (gm.2 0) 4)) n)) : Bth X mc lc mr lr mem n t mi la g gm := Bth_no 4 h hc hr
theorem Bth_no6 (h : Rla n t mi la g gm) (hc : ∀ M, ev X mc 0 (vR 0 :: lc) [] (cpt M n t mi la g) = some (some (vI (-6)), cpt M n t mi la (setL g 0 (rb (g.2 0) 6)))) (hr : ∀ M, ev X mr 0 (vR 53 :: lr) [] (mpt M gm n) = some (some (vI (-6)), mpt M (setL gm 0 (rb (gm.2 0) 6)) n)) : Bth X mc lc mr lr mem n t mi la g gm := Bth_no 6 h hc hr
end RR
