/-! COST -/
section CO
variable {X : List Int} {mem : AM} {n t mi la g gm d : ST}
/-- slights, one behind another -/
def slD (q : Nat) : List Nat → ST → ST
  | [], d => d
  | a :: L, d => slD q L (addH d a q 10)
def vld (P q : Nat) (L : List Nat) : Prop := ∀ a, a ∈ L → a < P ∧ a ≠ q
theorem slD_ok {P q : Nat} (hq : q < P) : ∀ (L : List Nat) (d : ST), vld P q L → DW d → d.1 0 = (P : Int) → DW (slD q L d) ∧ (slD q L d).1 = d.1 ∧ (slD q L d).2 6 = d.2 6
  | [], d, _, h, _ => ⟨h, rfl, rfl⟩
  | a :: L, d, hv, h, h0 => by
    have ha := hv a (List.mem_cons_self ..)
    have hA := DW_addH (x := 10) h (show (a : Int) < d.1 0 by rw [h0]; omega) (show (q : Int) < d.1 0 by rw [h0]; omega) ha.2
    exact slD_ok hq L (addH d a q 10) (fun b hb => hv b (List.mem_cons_of_mem _ hb)) hA h0
theorem addH_comm (d : ST) (i j q : Nat) (x : Int) : addH (addH d i q x) j q x = addH (addH d j q x) i q x := by
  by_cases e : i = j
  · rw [e]
  have e1 : ∀ v, hat (setH d i q v) j q = hat d j q := fun v => by
    show ((d.2 5).set (6 * i + q) v).getD (6 * j + q) 0 = (d.2 5).getD (6 * j + q) 0
    exact getD_ne (by omega)
  have e2 : ∀ v, hat (setH d j q v) i q = hat d i q := fun v => by
    show ((d.2 5).set (6 * j + q) v).getD (6 * i + q) 0 = (d.2 5).getD (6 * i + q) 0
    exact getD_ne (by omega)
  unfold addH
  rw [e1, e2]
  refine ST_ext (fun _ => rfl) (fun k => ?_)
  unfold setH
  simp only [setL_2, if_true]
  by_cases q1 : k = 5
  · rw [if_pos q1, if_pos q1, List.set_comm _ _ (show 6 * i + q ≠ 6 * j + q by omega)]
  · rw [if_neg q1, if_neg q1, if_neg q1, if_neg q1]
/-! in order -/
def ins (a : Nat) : List Nat → List Nat
  | [] => [a]
  | b :: L => if a ≤ b then a :: b :: L else b :: ins a L
def iso : List Nat → List Nat
  | [] => []
  | a :: L => ins a (iso L)
def srt : Nat → List Nat → Prop
  | _, [] => True
  | b, a :: L => b ≤ a ∧ srt a L
theorem slD_c (q a : Nat) (L : List Nat) (d : ST) : slD q (a :: L) d = slD q L (addH d a q 10) := by rw [slD]
theorem ins_c (a b : Nat) (L : List Nat) : ins a (b :: L) = if a ≤ b then a :: b :: L else b :: ins a L := by rw [ins]
theorem slD_ins (q a : Nat) (L : List Nat) : ∀ (d : ST), slD q (ins a L) d = slD q L (addH d a q 10) := by
  induction L with
  | nil =>
    intro d
    rw [ins, slD_c]
  | cons b L ih =>
    intro d
    rw [ins_c]
    by_cases q1 : a ≤ b
    · rw [if_pos q1, slD_c]
    · rw [if_neg q1, slD_c, slD_c, ih, addH_comm]
theorem slD_iso (q : Nat) : ∀ (L : List Nat) (d : ST), slD q (iso L) d = slD q L d
  | [], d => rfl
  | a :: L, d => by
    show slD q (ins a (iso L)) d = slD q L (addH d a q 10)
    rw [slD_ins, slD_iso q L]
theorem vld_ins (P q a : Nat) : ∀ (L : List Nat), (a < P ∧ a ≠ q) → vld P q L → vld P q (ins a L)
  | [], ha, _ => fun x hx => by
    have e : x = a := by
      rcases List.mem_cons.1 hx with e | e
      · exact e
      · exact absurd e (List.not_mem_nil)
    rw [e]; exact ha
  | b :: L, ha, hv => by
    unfold ins
    have hb := hv b (List.mem_cons_self ..)
    have hL : vld P q L := fun x hx => hv x (List.mem_cons_of_mem _ hx)
    split
    · intro x hx
      rcases List.mem_cons.1 hx with e | e
      · rw [e]; exact ha
      · exact hv x e
    · intro x hx
      rcases List.mem_cons.1 hx with e | e
      · rw [e]; exact hb
      · exact vld_ins P q a L ha hL x e
theorem vld_iso (P q : Nat) : ∀ (L : List Nat), vld P q L → vld P q (iso L)
  | [], h => h
  | a :: L, h => vld_ins P q a (iso L) (h a (List.mem_cons_self ..)) (vld_iso P q L (fun x hx => h x (List.mem_cons_of_mem _ hx)))
theorem len_ins (a : Nat) : ∀ (L : List Nat), (ins a L).length = L.length + 1
  | [] => rfl
  | b :: L => by
    unfold ins
    split
    · rfl
    · show (ins a L).length + 1 = L.length + 1 + 1
      rw [len_ins a L]
theorem len_iso : ∀ (L : List Nat), (iso L).length = L.length
  | [] => rfl
  | a :: L => by
    show (ins a (iso L)).length = L.length + 1
    rw [len_ins, len_iso L]
theorem srt_ins (a : Nat) : ∀ (L : List Nat) (b : Nat), srt b L → b ≤ a → srt b (ins a L)
  | [], b, _, hb => ⟨hb, trivial⟩
  | c :: L, b, h, hb => by
    unfold ins
    split
    · rename_i q
      exact ⟨hb, q, h.2⟩
    · exact ⟨h.1, srt_ins a L c h.2 (by omega)⟩
theorem srt_iso : ∀ (L : List Nat), srt 0 (iso L)
  | [] => trivial
  | a :: L => srt_ins a (iso L) 0 (srt_iso L) (Nat.zero_le _)
/-! the class's ways -/
def slA (P q : Nat) : Nat → Nat → Nat → ST → Bool × ST
  | 0, _, _, d => (true, d)
  | m + 1, r, b, d => if r % P = q then (false, d) else if r % P < b then (false, d) else slA P q m (r / P) (r % P) (addH d (r % P) q 10)
def enc (P : Nat) : List Nat → Nat
  | [] => 0
  | a :: L => a + P * enc P L
theorem enc_lt {P q : Nat} : ∀ (L : List Nat), vld P q L → enc P L < P ^ L.length
  | [], _ => by
    show 0 < P ^ 0
    rw [Nat.pow_zero]
    decide
  | a :: L, h => by
    have h1 := enc_lt L (fun x hx => h x (List.mem_cons_of_mem _ hx))
    have h2 := (h a (List.mem_cons_self ..)).1
    show a + P * enc P L < P ^ (L.length + 1)
    rw [Nat.pow_succ, Nat.mul_comm (P ^ L.length) P]
    have h3 : P * (enc P L + 1) ≤ P * P ^ L.length := Nat.mul_le_mul_left _ h1
    rw [Nat.mul_add, Nat.mul_one] at h3
    omega
theorem slA_enc {P q : Nat} : ∀ (L : List Nat) (b : Nat) (d : ST), vld P q L → srt b L → slA P q L.length (enc P L) b d = (true, slD q L d)
  | [], _, _, _, _ => rfl
  | a :: L, b, d, hv, hs => by
    have ha := hv a (List.mem_cons_self ..)
    have e1 : (a + P * enc P L) % P = a := by rw [Nat.add_mul_mod_self_left, Nat.mod_eq_of_lt ha.1]
    have e2 : (a + P * enc P L) / P = enc P L := by
      rw [Nat.add_mul_div_left _ _ (by omega), Nat.div_eq_of_lt ha.1, Nat.zero_add]
    show slA P q (L.length + 1) (a + P * enc P L) b d = (true, slD q L (addH d a q 10))
    unfold slA
    rw [e1, e2, if_neg ha.2, if_neg (by have := hs.1; omega)]
    exact slA_enc L a _ (fun x hx => hv x (List.mem_cons_of_mem _ hx)) hs.2
theorem slA_list {P q : Nat} (hP : 0 < P) : ∀ (m r b : Nat) (d : ST), (slA P q m r b d).1 = true → ∃ L : List Nat, L.length = m ∧ vld P q L ∧ (slA P q m r b d).2 = slD q L d
  | 0, _, _, d, _ => ⟨[], rfl, fun a ha => absurd ha (List.not_mem_nil), rfl⟩
  | m + 1, r, b, d, h => by
    unfold slA at h ⊢
    by_cases q1 : r % P = q
    · rw [if_pos q1] at h
      exact absurd h (by simp)
    · rw [if_neg q1] at h ⊢
      by_cases q2 : r % P < b
      · rw [if_pos q2] at h
        exact absurd h (by simp)
      · rw [if_neg q2] at h ⊢
        obtain ⟨L, h1, h2, h3⟩ := slA_list hP m (r / P) (r % P) (addH d (r % P) q 10) h
        refine ⟨r % P :: L, by rw [List.length_cons, h1], fun x hx => ?_, h3⟩
        rcases List.mem_cons.1 hx with e | e
        · rw [e]
          exact ⟨Nat.mod_lt _ hP, q1⟩
        · exact h2 x e
/-- whether some way to slight so many times is enough -/
def enL (d : ST) (c q P k m : Nat) : Nat → Nat → Bool
  | 0, _ => false
  | j + 1, way => if (slA P q m way 0 d).1 = true then (if whS (slA P q m way 0 d).2 c ≤ k then true else enL d c q P k m j (way + 1)) else enL d c q P k m j (way + 1)
theorem enL_iff (d : ST) (c q P k m : Nat) : ∀ (j w : Nat), enL d c q P k m j w = true ↔ ∃ x, w ≤ x ∧ x < w + j ∧ (slA P q m x 0 d).1 = true ∧ whS (slA P q m x 0 d).2 c ≤ k
  | 0, w => ⟨fun h => by unfold enL at h; exact absurd h (by decide), fun ⟨x, h1, h2, _⟩ => by omega⟩
  | j + 1, w => by
    have ih := enL_iff d c q P k m j (w + 1)
    unfold enL
    by_cases q1 : (slA P q m w 0 d).1 = true ∧ whS (slA P q m w 0 d).2 c ≤ k
    · rw [if_pos q1.1, if_pos q1.2]
      exact ⟨fun _ => ⟨w, Nat.le_refl _, by omega, q1⟩, fun _ => rfl⟩
    · have e : (if (slA P q m w 0 d).1 = true then (if whS (slA P q m w 0 d).2 c ≤ k then true else enL d c q P k m j (w + 1)) else enL d c q P k m j (w + 1)) = enL d c q P k m j (w + 1) := by
        by_cases q2 : (slA P q m w 0 d).1 = true
        · rw [if_pos q2, if_neg (fun z => q1 ⟨q2, z⟩)]
        · rw [if_neg q2]
      rw [e, ih]
      refine ⟨fun ⟨x, h1, h2, h3⟩ => ⟨x, by omega, by omega, h3⟩, fun ⟨x, h1, h2, h3⟩ => ?_⟩
      by_cases e2 : x = w
      · rw [e2] at h3
        exact absurd h3 q1
      · exact ⟨x, by omega, by omega, h3⟩
/-- so many slights are enough -/
def eno (d : ST) (c q P k m : Nat) : Prop := ∃ L : List Nat, L.length = m ∧ vld P q L ∧ whS (slD q L d) c ≤ k
theorem en_eno {d : ST} {c q P k m : Nat} (hP : 0 < P) : enL d c q P k m (P ^ m) 0 = true ↔ eno d c q P k m := by
  rw [enL_iff]
  refine ⟨fun ⟨x, h1, h2, h3, h4⟩ => ?_, fun ⟨L, h1, h2, h3⟩ => ?_⟩
  · obtain ⟨L, l1, l2, l3⟩ := slA_list hP m x 0 d h3
    exact ⟨L, l1, l2, by rw [← l3]; exact h4⟩
  · have e := slA_enc (iso L) 0 d (vld_iso P q L h2) (srt_iso L)
    have hlt := enc_lt (iso L) (vld_iso P q L h2)
    rw [len_iso, h1] at e hlt
    exact ⟨enc P (iso L), Nat.zero_le _, by omega, by rw [e], by rw [e]; dsimp only; rw [slD_iso]; exact h3⟩
theorem mx1 {P : Nat} (h : 1 ≤ P) : (if (1 : Int) < (P : Int) then (P : Int) else 1) = (P : Int) := by split <;> omega
theorem tm {r P : Nat} (hr : r < 2147483648) (hP : 0 < P) (hP2 : P ≤ 7) : w32 ((r : Int).tmod (P : Int)) = ((r % P : Nat) : Int) := by
  rw [tmod_n]
  have h := Nat.mod_lt r hP
  generalize r % P = x at h ⊢
  exact w32_id (by omega) (by omega)
theorem td {r P : Nat} (hr : r < 2147483648) : w32 ((r : Int).tdiv (P : Int)) = ((r / P : Nat) : Int) := by
  rw [tdiv_n]
  have h := Nat.div_le_self r P
  generalize r / P = x at h ⊢
  exact w32_id (by omega) (by omega)
theorem T3_slightAll {P q m w : Nat} (h : DW d) (h0 : d.1 0 = (P : Int)) (hq : q < P) (hw : w < 2147483648) (hm : m ≤ 3) : ∃ d', DW d' ∧ d'.1 = d.1 ∧ d' = (slA P q m w 0 d).2 ∧ ev X m_X3_slightAll 0 [vR 23, vI (w : Int), vI (m : Int), vI (q : Int), vS, vS, vS, vS, vS] [] (cpt mem n t d la g) = some (some (vI (if (slA P q m w 0 d).1 = true then 1 else 0)), cpt mem n t d' la g) := by
  have hP : P ≤ 6 := by have := h.2.1.2; omega
  have key : ∀ (j i r b : Nat) (e : ST) (z : AV), i + j = m → r < 2147483648 → DW e → e.1 = d.1 → ∃ d', DW d' ∧ d'.1 = d.1 ∧ d' = (slA P q j r b e).2 ∧ ev X m_X3_slightAll 22 [vR 23, vI (w : Int), vI (m : Int), vI (q : Int), vI (P : Int), vI (r : Int), vI (b : Int), vI (i : Int), z] [] (cpt mem n t e la g) = some (some (vI (if (slA P q j r b e).1 = true then 1 else 0)), cpt mem n t d' la g) := by
    intro j
    induction j with
    | zero =>
      intro i r b e z hi hr he he1
      refine ⟨e, he, he1, rfl, ?_⟩
      rw [eX3_slightAll_22]
      simp only [eX3_slightAll_0, eX3_slightAll_1, eX3_slightAll_2, eX3_slightAll_5, eX3_slightAll_8, eX3_slightAll_11, eX3_slightAll_13, eX3_slightAll_14, eX3_slightAll_16, eX3_slightAll_17, eX3_slightAll_19, eX3_slightAll_20, eX3_slightAll_24, eX3_slightAll_25, eX3_slightAll_28, eX3_slightAll_30, eX3_slightAll_32, eX3_slightAll_33, eX3_slightAll_35, eX3_slightAll_37, eX3_slightAll_39, eX3_slightAll_40, eX3_slightAll_42, eX3_slightAll_44, eX3_slightAll_45, eX3_slightAll_48, eX3_slightAll_50, eX3_slightAll_52, eX3_slightAll_55, eX3_slightAll_56a, eX3_slightAll_56b, eX3_slightAll_56c, eX3_slightAll_57, eX3_slightAll_58, eX3_slightAll_61, eX3_slightAll_63, eX3_slightAll_64, eX3_slightAll_66, eX3_slightAll_69, eX3_slightAll_69r, eX3_slightAll_70, eX3_slightAll_72, eX3_slightAll_74, eX3_slightAll_77, eX3_slightAll_80, eX3_slightAll_81a, eX3_slightAll_81b, eX3_slightAll_81c, evb_some, evm_some, evc_some, evc_none, gd, if_true, if_false, eq_self, and_self, and_true, true_and, ne_eq, not_false_eq_true, or_true, true_or, cf0_0, cf0_1, cf0_2, cf0_3, cf0_4, cf0_5, cf0_6, cf23_0, cf23_1, cf23_2, cf23_3, cf48_0, cf48_1, cf50_0, cf50_1, cg0, cg23, cg48, cg50, cg1, cg12, cg24, cg35, Int.reduceEq, Int.reduceLT, Int.reduceLE, ↓reduceIte, show ¬ (i : Int) < (m : Int) by omega, slA]
    | succ j ih =>
      intro i r b e z hi hr he he1
      have c1 : (i : Int) < (m : Int) := by omega
      have hP0 : 0 < P := by omega
      have hmod := Nat.mod_lt r hP0
      unfold slA
      by_cases q1 : r % P = q
      · have q2 : ((r % P : Nat) : Int) = (q : Int) := by omega
        rw [if_pos q1]
        refine ⟨e, he, he1, rfl, ?_⟩
        rw [eX3_slightAll_22]
        simp only [eX3_slightAll_0, eX3_slightAll_1, eX3_slightAll_2, eX3_slightAll_5, eX3_slightAll_8, eX3_slightAll_11, eX3_slightAll_13, eX3_slightAll_14, eX3_slightAll_16, eX3_slightAll_17, eX3_slightAll_19, eX3_slightAll_20, eX3_slightAll_24, eX3_slightAll_25, eX3_slightAll_28, eX3_slightAll_30, eX3_slightAll_32, eX3_slightAll_33, eX3_slightAll_35, eX3_slightAll_37, eX3_slightAll_39, eX3_slightAll_40, eX3_slightAll_42, eX3_slightAll_44, eX3_slightAll_45, eX3_slightAll_48, eX3_slightAll_50, eX3_slightAll_52, eX3_slightAll_55, eX3_slightAll_56a, eX3_slightAll_56b, eX3_slightAll_56c, eX3_slightAll_57, eX3_slightAll_58, eX3_slightAll_61, eX3_slightAll_63, eX3_slightAll_64, eX3_slightAll_66, eX3_slightAll_69, eX3_slightAll_69r, eX3_slightAll_70, eX3_slightAll_72, eX3_slightAll_74, eX3_slightAll_77, eX3_slightAll_80, eX3_slightAll_81a, eX3_slightAll_81b, eX3_slightAll_81c, evb_some, evm_some, evc_some, evc_none, gd, if_true, if_false, eq_self, and_self, and_true, true_and, ne_eq, not_false_eq_true, or_true, true_or, cf0_0, cf0_1, cf0_2, cf0_3, cf0_4, cf0_5, cf0_6, cf23_0, cf23_1, cf23_2, cf23_3, cf48_0, cf48_1, cf50_0, cf50_1, cg0, cg23, cg48, cg50, cg1, cg12, cg24, cg35, Int.reduceEq, Int.reduceLT, Int.reduceLE, ↓reduceIte, c1, nz hP0, tm hr hP0 (show P ≤ 7 by omega), td hr, q2, Bool.false_eq_true]
      · have q2 : ¬ ((r % P : Nat) : Int) = (q : Int) := by omega
        rw [if_neg q1]
        by_cases q3 : r % P < b
        · have q4 : ((r % P : Nat) : Int) < (b : Int) := by omega
          rw [if_pos q3]
          refine ⟨e, he, he1, rfl, ?_⟩
          rw [eX3_slightAll_22]
          simp only [eX3_slightAll_0, eX3_slightAll_1, eX3_slightAll_2, eX3_slightAll_5, eX3_slightAll_8, eX3_slightAll_11, eX3_slightAll_13, eX3_slightAll_14, eX3_slightAll_16, eX3_slightAll_17, eX3_slightAll_19, eX3_slightAll_20, eX3_slightAll_24, eX3_slightAll_25, eX3_slightAll_28, eX3_slightAll_30, eX3_slightAll_32, eX3_slightAll_33, eX3_slightAll_35, eX3_slightAll_37, eX3_slightAll_39, eX3_slightAll_40, eX3_slightAll_42, eX3_slightAll_44, eX3_slightAll_45, eX3_slightAll_48, eX3_slightAll_50, eX3_slightAll_52, eX3_slightAll_55, eX3_slightAll_56a, eX3_slightAll_56b, eX3_slightAll_56c, eX3_slightAll_57, eX3_slightAll_58, eX3_slightAll_61, eX3_slightAll_63, eX3_slightAll_64, eX3_slightAll_66, eX3_slightAll_69, eX3_slightAll_69r, eX3_slightAll_70, eX3_slightAll_72, eX3_slightAll_74, eX3_slightAll_77, eX3_slightAll_80, eX3_slightAll_81a, eX3_slightAll_81b, eX3_slightAll_81c, evb_some, evm_some, evc_some, evc_none, gd, if_true, if_false, eq_self, and_self, and_true, true_and, ne_eq, not_false_eq_true, or_true, true_or, cf0_0, cf0_1, cf0_2, cf0_3, cf0_4, cf0_5, cf0_6, cf23_0, cf23_1, cf23_2, cf23_3, cf48_0, cf48_1, cf50_0, cf50_1, cg0, cg23, cg48, cg50, cg1, cg12, cg24, cg35, Int.reduceEq, Int.reduceLT, Int.reduceLE, ↓reduceIte, c1, nz hP0, tm hr hP0 (show P ≤ 7 by omega), td hr, q2, q4, Bool.false_eq_true]
        · have q4 : ¬ ((r % P : Nat) : Int) < (b : Int) := by omega
          rw [if_neg q3]
          have a0 : ((r % P : Nat) : Int) < e.1 0 := by rw [he1, h0]; omega
          have b0 : (q : Int) < e.1 0 := by rw [he1, h0]; omega
          have hA := DW_addH (x := 10) he a0 b0 q1
          have ha := m_addHate (X := X) (mem := mem) (n := n) (t := t) (la := la) (g := g) (d := e) (x := 10) (z := vS) he.1 he.2.1.2 a0 b0 q1
          have hdl := Nat.div_le_self r P
          obtain ⟨d', h1, h2, h3, h4⟩ := ih (i + 1) (r / P) (r % P) (addH e (r % P) q 10) (vI ((r % P : Nat) : Int)) (by omega) (by omega) hA he1
          refine ⟨d', h1, h2, h3, ?_⟩
          rw [eX3_slightAll_22]
          simp only [eX3_slightAll_0, eX3_slightAll_1, eX3_slightAll_2, eX3_slightAll_5, eX3_slightAll_8, eX3_slightAll_11, eX3_slightAll_13, eX3_slightAll_14, eX3_slightAll_16, eX3_slightAll_17, eX3_slightAll_19, eX3_slightAll_20, eX3_slightAll_24, eX3_slightAll_25, eX3_slightAll_28, eX3_slightAll_30, eX3_slightAll_32, eX3_slightAll_33, eX3_slightAll_35, eX3_slightAll_37, eX3_slightAll_39, eX3_slightAll_40, eX3_slightAll_42, eX3_slightAll_44, eX3_slightAll_45, eX3_slightAll_48, eX3_slightAll_50, eX3_slightAll_52, eX3_slightAll_55, eX3_slightAll_56a, eX3_slightAll_56b, eX3_slightAll_56c, eX3_slightAll_57, eX3_slightAll_58, eX3_slightAll_61, eX3_slightAll_63, eX3_slightAll_64, eX3_slightAll_66, eX3_slightAll_69, eX3_slightAll_69r, eX3_slightAll_70, eX3_slightAll_72, eX3_slightAll_74, eX3_slightAll_77, eX3_slightAll_80, eX3_slightAll_81a, eX3_slightAll_81b, eX3_slightAll_81c, evb_some, evm_some, evc_some, evc_none, gd, if_true, if_false, eq_self, and_self, and_true, true_and, ne_eq, not_false_eq_true, or_true, true_or, cf0_0, cf0_1, cf0_2, cf0_3, cf0_4, cf0_5, cf0_6, cf23_0, cf23_1, cf23_2, cf23_3, cf48_0, cf48_1, cf50_0, cf50_1, cg0, cg23, cg48, cg50, cg1, cg12, cg24, cg35, Int.reduceEq, Int.reduceLT, Int.reduceLE, ↓reduceIte, c1, nz hP0, tm hr hP0 (show P ≤ 7 by omega), td hr, q2, q4, ha, w32_k1 (show i < 2147483647 by omega)]
          exact h4
  obtain ⟨d', h1, h2, h3, h4⟩ := key m 0 w 0 d vS (by omega) hw h rfl
  refine ⟨d', h1, h2, h3, Eq.trans ?_ h4⟩
  simp only [eX3_slightAll_0, eX3_slightAll_1, eX3_slightAll_2, eX3_slightAll_5, eX3_slightAll_8, eX3_slightAll_11, eX3_slightAll_13, eX3_slightAll_14, eX3_slightAll_16, eX3_slightAll_17, eX3_slightAll_19, eX3_slightAll_20, evb_some, evm_some, evc_some, evc_none, gd, if_true, if_false, eq_self, and_self, and_true, true_and, ne_eq, not_false_eq_true, or_true, true_or, cf0_0, cf0_1, cf0_2, cf0_3, cf0_4, cf0_5, cf0_6, cf23_0, cf23_1, cf23_2, cf23_3, cf48_0, cf48_1, cf50_0, cf50_1, cg0, cg23, cg48, cg50, cg1, cg12, cg24, cg35, Int.reduceEq, Int.reduceLT, Int.reduceLE, ↓reduceIte, q1_0, q1_1, q1_2, q1_3, q1_4, q1_5, q1_6, q1_7, q1_8, q1_9, q1_10, q1_11, q1_12, q12_0, q12_1, q12_2, q12_3, q12_4, q12_5, q12_6, q12_7, q12_8, q12_9, q12_10, q12_11, q12_12, q24_0, q24_1, q24_2, q24_3, q24_4, q24_5, q24_6, q24_7, q24_8, q24_9, q24_10, q24_11, q24_12, q35_0, q35_1, q35_2, q35_3, q35_4, q35_5, q35_6, q35_7, q35_8, q35_9, q35_10, q35_11, q35_12, h0, mx1 (show 1 ≤ P by omega)]
  rfl
theorem pw {P m : Nat} (hP : P ≤ 6) (hm : m ≤ 3) : P ^ m ≤ 216 := by
  have h1 : P ^ m ≤ 6 ^ m := Nat.pow_le_pow_left hP m
  have h2 : 6 ^ m ≤ 6 ^ 3 := Nat.pow_le_pow_right (by decide) hm
  rw [show (6 : Nat) ^ 3 = 216 by decide] at h2
  omega
theorem T3_isEnough {P q c k m : Nat} (h : DW n) (hmi : DL mi) (h0 : n.1 0 = (P : Int)) (hq : q < P) (hc : (c : Int) < n.1 1) (hto : (n.2 6).getD c 0 = (q : Int)) (hk : k ≤ 60) (hm : m ≤ 3) : ∃ d', DL d' ∧ ev X m_X3_isEnough 0 [vR 23, vR 1, vI (c : Int), vI (k : Int), vI (m : Int), vS, vS] [] (cpt mem n t mi la g) = some (some (vI (if enL n c q P k m (P ^ m) 0 = true then 1 else 0)), cpt mem n t d' la g) := by
  have hP : P ≤ 6 := by have := h.2.1.2; omega
  have h8 := h.2.2.1.2
  have k1 : ∀ (j i : Nat), i + j = m → ev X m_X3_isEnough 6 [vR 23, vR 1, vI (c : Int), vI (k : Int), vI (m : Int), vI ((P ^ i : Nat) : Int), vI (i : Int)] [] (cpt mem n t mi la g) = ev X m_X3_isEnough 31 [vR 23, vR 1, vI (c : Int), vI (k : Int), vI (m : Int), vI ((P ^ m : Nat) : Int), vI 0] [] (cpt mem n t mi la g) := by
    intro j
    induction j with
    | zero =>
      intro i hi
      rw [eX3_isEnough_6, show i = m by omega]
      simp only [eX3_isEnough_8, eX3_isEnough_10, eX3_isEnough_13, eX3_isEnough_15, eX3_isEnough_16, eX3_isEnough_19, eX3_isEnough_20, eX3_isEnough_22, eX3_isEnough_25, eX3_isEnough_28, eX3_isEnough_29, evb_some, evm_some, evc_some, evc_none, gd, if_true, if_false, eq_self, and_self, and_true, true_and, ne_eq, not_false_eq_true, or_true, true_or, cf0_0, cf0_1, cf0_2, cf0_3, cf0_4, cf0_5, cf0_6, cf23_0, cf23_1, cf23_2, cf23_3, cf48_0, cf48_1, cf50_0, cf50_1, cg0, cg23, cg48, cg50, cg1, cg12, cg24, cg35, Int.reduceEq, Int.reduceLT, Int.reduceLE, ↓reduceIte, show ¬ (m : Int) < (m : Int) by omega]
    | succ j ih =>
      intro i hi
      have hp := pw hP (show i + 1 ≤ 3 by omega)
      have e : w32 (((P ^ i : Nat) : Int) * (P : Int)) = ((P ^ (i + 1) : Nat) : Int) := by
        rw [← Int.natCast_mul, ← Nat.pow_succ]
        generalize P ^ (i + 1) = y at hp ⊢
        exact w32_id (by omega) (by omega)
      rw [eX3_isEnough_6]
      simp only [eX3_isEnough_8, eX3_isEnough_10, eX3_isEnough_13, eX3_isEnough_15, eX3_isEnough_16, eX3_isEnough_19, eX3_isEnough_20, eX3_isEnough_22, eX3_isEnough_25, eX3_isEnough_28, eX3_isEnough_29, evb_some, evm_some, evc_some, evc_none, gd, if_true, if_false, eq_self, and_self, and_true, true_and, ne_eq, not_false_eq_true, or_true, true_or, cf0_0, cf0_1, cf0_2, cf0_3, cf0_4, cf0_5, cf0_6, cf23_0, cf23_1, cf23_2, cf23_3, cf48_0, cf48_1, cf50_0, cf50_1, cg0, cg23, cg48, cg50, cg1, cg12, cg24, cg35, Int.reduceEq, Int.reduceLT, Int.reduceLE, ↓reduceIte, q1_0, q1_1, q1_2, q1_3, q1_4, q1_5, q1_6, q1_7, q1_8, q1_9, q1_10, q1_11, q1_12, q12_0, q12_1, q12_2, q12_3, q12_4, q12_5, q12_6, q12_7, q12_8, q12_9, q12_10, q12_11, q12_12, q24_0, q24_1, q24_2, q24_3, q24_4, q24_5, q24_6, q24_7, q24_8, q24_9, q24_10, q24_11, q24_12, q35_0, q35_1, q35_2, q35_3, q35_4, q35_5, q35_6, q35_7, q35_8, q35_9, q35_10, q35_11, q35_12, h0, e, show (i : Int) < (m : Int) by omega, w32_k1 (show i < 2147483647 by omega)]
      exact ih (i + 1) (by omega)
  have hpm := pw hP hm
  have k2 : ∀ (j w : Nat) (mi : ST), DL mi → w + j = P ^ m → ∃ d', DL d' ∧ ev X m_X3_isEnough 31 [vR 23, vR 1, vI (c : Int), vI (k : Int), vI (m : Int), vI ((P ^ m : Nat) : Int), vI (w : Int)] [] (cpt mem n t mi la g) = some (some (vI (if enL n c q P k m j w = true then 1 else 0)), cpt mem n t d' la g) := by
    intro j
    induction j with
    | zero =>
      intro w mi hmi hw
      refine ⟨mi, hmi, ?_⟩
      rw [eX3_isEnough_31]
      simp only [eX3_isEnough_0, eX3_isEnough_1, eX3_isEnough_3, eX3_isEnough_4, eX3_isEnough_8, eX3_isEnough_10, eX3_isEnough_13, eX3_isEnough_15, eX3_isEnough_16, eX3_isEnough_19, eX3_isEnough_20, eX3_isEnough_22, eX3_isEnough_25, eX3_isEnough_28, eX3_isEnough_29, eX3_isEnough_33, eX3_isEnough_35, eX3_isEnough_38, eX3_isEnough_39, eX3_isEnough_42, eX3_isEnough_43, eX3_isEnough_46, eX3_isEnough_47, eX3_isEnough_49, eX3_isEnough_51, eX3_isEnough_52, eX3_isEnough_53, eX3_isEnough_56, eX3_isEnough_59, eX3_isEnough_62, eX3_isEnough_63, eX3_isEnough_66, eX3_isEnough_67, eX3_isEnough_68, eX3_isEnough_71, eX3_isEnough_72, eX3_isEnough_75, eX3_isEnough_76a, eX3_isEnough_76b, eX3_isEnough_76c, eX3_isEnough_77, eX3_isEnough_80, eX3_isEnough_83, eX3_isEnough_84a, eX3_isEnough_84b, eX3_isEnough_84c, evb_some, evm_some, evc_some, evc_none, gd, if_true, if_false, eq_self, and_self, and_true, true_and, ne_eq, not_false_eq_true, or_true, true_or, cf0_0, cf0_1, cf0_2, cf0_3, cf0_4, cf0_5, cf0_6, cf23_0, cf23_1, cf23_2, cf23_3, cf48_0, cf48_1, cf50_0, cf50_1, cg0, cg23, cg48, cg50, cg1, cg12, cg24, cg35, Int.reduceEq, Int.reduceLT, Int.reduceLE, ↓reduceIte, show ¬ (w : Int) < ((P ^ m : Nat) : Int) by omega, enL, Bool.false_eq_true]
    | succ j ih =>
      intro w mi hmi hw
      have c1 : (w : Int) < ((P ^ m : Nat) : Int) := by omega
      obtain ⟨e, s1, s2, s3, s4⟩ := T3_slightAll (X := X) (mem := mem) (n := n) (t := t) (la := la) (g := g) (m := m) (w := w) h h0 hq (by omega) hm
      unfold enL
      by_cases q1 : (slA P q m w 0 n).1 = true
      · rw [if_pos q1] at s4 ⊢
        rw [← s3]
        obtain ⟨e2, s5, s6⟩ := m_dtb (X := X) (mem := mem) (n := n) (t := t) (la := la) (g := g) (d := e) (k := k) (z := vS) s1 (show (c : Int) < e.1 1 by rw [s2]; exact hc) (by omega)
        rw [tbL_wh _ _ (show k ≤ 99 by omega)] at s6
        by_cases q2 : whS e c ≤ k
        · rw [if_pos q2] at s6 ⊢
          refine ⟨e2, s5.1, ?_⟩
          rw [eX3_isEnough_31]
          simp only [eX3_isEnough_0, eX3_isEnough_1, eX3_isEnough_3, eX3_isEnough_4, eX3_isEnough_8, eX3_isEnough_10, eX3_isEnough_13, eX3_isEnough_15, eX3_isEnough_16, eX3_isEnough_19, eX3_isEnough_20, eX3_isEnough_22, eX3_isEnough_25, eX3_isEnough_28, eX3_isEnough_29, eX3_isEnough_33, eX3_isEnough_35, eX3_isEnough_38, eX3_isEnough_39, eX3_isEnough_42, eX3_isEnough_43, eX3_isEnough_46, eX3_isEnough_47, eX3_isEnough_49, eX3_isEnough_51, eX3_isEnough_52, eX3_isEnough_53, eX3_isEnough_56, eX3_isEnough_59, eX3_isEnough_62, eX3_isEnough_63, eX3_isEnough_66, eX3_isEnough_67, eX3_isEnough_68, eX3_isEnough_71, eX3_isEnough_72, eX3_isEnough_75, eX3_isEnough_76a, eX3_isEnough_76b, eX3_isEnough_76c, eX3_isEnough_77, eX3_isEnough_80, eX3_isEnough_83, eX3_isEnough_84a, eX3_isEnough_84b, eX3_isEnough_84c, evb_some, evm_some, evc_some, evc_none, gd, if_true, if_false, eq_self, and_self, and_true, true_and, ne_eq, not_false_eq_true, or_true, true_or, cf0_0, cf0_1, cf0_2, cf0_3, cf0_4, cf0_5, cf0_6, cf23_0, cf23_1, cf23_2, cf23_3, cf48_0, cf48_1, cf50_0, cf50_1, cg0, cg23, cg48, cg50, cg1, cg12, cg24, cg35, Int.reduceEq, Int.reduceLT, Int.reduceLE, ↓reduceIte, c1, b24_1 hmi h.1, n_receiverOf h.1 hc h8, hto, s4, s6, show ¬ (k : Int) < ((whS e c : Nat) : Int) by omega]
        · rw [if_neg q2] at s6 ⊢
          obtain ⟨d', h1, h2⟩ := ih (w + 1) e2 s5.1 (by omega)
          refine ⟨d', h1, ?_⟩
          rw [eX3_isEnough_31]
          simp only [eX3_isEnough_0, eX3_isEnough_1, eX3_isEnough_3, eX3_isEnough_4, eX3_isEnough_8, eX3_isEnough_10, eX3_isEnough_13, eX3_isEnough_15, eX3_isEnough_16, eX3_isEnough_19, eX3_isEnough_20, eX3_isEnough_22, eX3_isEnough_25, eX3_isEnough_28, eX3_isEnough_29, eX3_isEnough_33, eX3_isEnough_35, eX3_isEnough_38, eX3_isEnough_39, eX3_isEnough_42, eX3_isEnough_43, eX3_isEnough_46, eX3_isEnough_47, eX3_isEnough_49, eX3_isEnough_51, eX3_isEnough_52, eX3_isEnough_53, eX3_isEnough_56, eX3_isEnough_59, eX3_isEnough_62, eX3_isEnough_63, eX3_isEnough_66, eX3_isEnough_67, eX3_isEnough_68, eX3_isEnough_71, eX3_isEnough_72, eX3_isEnough_75, eX3_isEnough_76a, eX3_isEnough_76b, eX3_isEnough_76c, eX3_isEnough_77, eX3_isEnough_80, eX3_isEnough_83, eX3_isEnough_84a, eX3_isEnough_84b, eX3_isEnough_84c, evb_some, evm_some, evc_some, evc_none, gd, if_true, if_false, eq_self, and_self, and_true, true_and, ne_eq, not_false_eq_true, or_true, true_or, cf0_0, cf0_1, cf0_2, cf0_3, cf0_4, cf0_5, cf0_6, cf23_0, cf23_1, cf23_2, cf23_3, cf48_0, cf48_1, cf50_0, cf50_1, cg0, cg23, cg48, cg50, cg1, cg12, cg24, cg35, Int.reduceEq, Int.reduceLT, Int.reduceLE, ↓reduceIte, c1, b24_1 hmi h.1, n_receiverOf h.1 hc h8, hto, s4, s6, show (k : Int) < ((100 : Nat) : Int) by omega, w32_k1 (show w < 2147483647 by omega)]
          exact h2
      · rw [if_neg q1] at s4 ⊢
        obtain ⟨d', h1, h2⟩ := ih (w + 1) e s1.1 (by omega)
        refine ⟨d', h1, ?_⟩
        rw [eX3_isEnough_31]
        simp only [eX3_isEnough_0, eX3_isEnough_1, eX3_isEnough_3, eX3_isEnough_4, eX3_isEnough_8, eX3_isEnough_10, eX3_isEnough_13, eX3_isEnough_15, eX3_isEnough_16, eX3_isEnough_19, eX3_isEnough_20, eX3_isEnough_22, eX3_isEnough_25, eX3_isEnough_28, eX3_isEnough_29, eX3_isEnough_33, eX3_isEnough_35, eX3_isEnough_38, eX3_isEnough_39, eX3_isEnough_42, eX3_isEnough_43, eX3_isEnough_46, eX3_isEnough_47, eX3_isEnough_49, eX3_isEnough_51, eX3_isEnough_52, eX3_isEnough_53, eX3_isEnough_56, eX3_isEnough_59, eX3_isEnough_62, eX3_isEnough_63, eX3_isEnough_66, eX3_isEnough_67, eX3_isEnough_68, eX3_isEnough_71, eX3_isEnough_72, eX3_isEnough_75, eX3_isEnough_76a, eX3_isEnough_76b, eX3_isEnough_76c, eX3_isEnough_77, eX3_isEnough_80, eX3_isEnough_83, eX3_isEnough_84a, eX3_isEnough_84b, eX3_isEnough_84c, evb_some, evm_some, evc_some, evc_none, gd, if_true, if_false, eq_self, and_self, and_true, true_and, ne_eq, not_false_eq_true, or_true, true_or, cf0_0, cf0_1, cf0_2, cf0_3, cf0_4, cf0_5, cf0_6, cf23_0, cf23_1, cf23_2, cf23_3, cf48_0, cf48_1, cf50_0, cf50_1, cg0, cg23, cg48, cg50, cg1, cg12, cg24, cg35, Int.reduceEq, Int.reduceLT, Int.reduceLE, ↓reduceIte, c1, b24_1 hmi h.1, n_receiverOf h.1 hc h8, hto, s4, w32_k1 (show w < 2147483647 by omega)]
        exact h2
  obtain ⟨d', h1, h2⟩ := k2 (P ^ m) 0 mi hmi (by omega)
  refine ⟨d', h1, Eq.trans ?_ ((k1 m 0 (by omega)).trans h2)⟩
  simp only [eX3_isEnough_0, eX3_isEnough_1, eX3_isEnough_3, eX3_isEnough_4, Nat.pow_zero]
  rfl
/-- the fewest, as the class seeks -/
def coL (d : ST) (c q P k : Nat) : Nat → Nat → Int
  | 0, _ => -9
  | j + 1, m => if enL d c q P k m (P ^ m) 0 = true then (m : Int) else coL d c q P k j (m + 1)
theorem coL_spec (d : ST) (c q P k : Nat) (hP : 0 < P) : ∀ (j m : Nat), (coL d c q P k j m = -9 ∧ ∀ i, m ≤ i → i < m + j → ¬ eno d c q P k i) ∨ ∃ i, m ≤ i ∧ i < m + j ∧ coL d c q P k j m = (i : Int) ∧ eno d c q P k i ∧ ∀ i', m ≤ i' → i' < i → ¬ eno d c q P k i'
  | 0, m => Or.inl ⟨rfl, fun i h1 h2 => by omega⟩
  | j + 1, m => by
    unfold coL
    by_cases q1 : enL d c q P k m (P ^ m) 0 = true
    · rw [if_pos q1]
      exact Or.inr ⟨m, Nat.le_refl _, by omega, rfl, (en_eno hP).1 q1, fun i' h1 h2 => by omega⟩
    · rw [if_neg q1]
      have q2 : ¬ eno d c q P k m := fun z => q1 ((en_eno hP).2 z)
      rcases coL_spec d c q P k hP j (m + 1) with ⟨h1, h2⟩ | ⟨i, h1, h2, h3, h4, h5⟩
      · refine Or.inl ⟨h1, fun i a b => ?_⟩
        by_cases e : i = m
        · rw [e]; exact q2
        · exact h2 i (by omega) (by omega)
      · refine Or.inr ⟨i, by omega, by omega, h3, h4, fun i' a b => ?_⟩
        by_cases e : i' = m
        · rw [e]; exact q2
        · exact h5 i' (by omega) b
theorem T4_costLoop {P q c k : Nat} (h : DW n) (h0 : n.1 0 = (P : Int)) (hq : q < P) (hc : (c : Int) < n.1 1) (hto : (n.2 6).getD c 0 = (q : Int)) (hk : k ≤ 60) : ∀ (j m : Nat) (mi : ST), DL mi → m + j = 4 → ∃ d', DL d' ∧ ev X m_X4_cost 62 [vR 0, vI (c : Int), vI (k : Int), vI (m : Int)] [] (cpt mem n t mi la g) = some (some (vI (coL n c q P k j m)), cpt mem n t d' la g) := by
  intro j
  induction j with
  | zero =>
    intro m mi hmi hm
    refine ⟨mi, hmi, ?_⟩
    rw [eX4_cost_62]
    simp only [eX4_cost_0, eX4_cost_1, eX4_cost_4, eX4_cost_5, eX4_cost_8, eX4_cost_11, eX4_cost_12, eX4_cost_13, eX4_cost_16, eX4_cost_17, eX4_cost_18, eX4_cost_19, eX4_cost_22, eX4_cost_23, eX4_cost_25, eX4_cost_28, eX4_cost_29, eX4_cost_30, eX4_cost_32, eX4_cost_35, eX4_cost_36, eX4_cost_38, eX4_cost_41, eX4_cost_42, eX4_cost_43, eX4_cost_46, eX4_cost_47, eX4_cost_50, eX4_cost_53, eX4_cost_54, eX4_cost_56, eX4_cost_59, eX4_cost_60, eX4_cost_61, eX4_cost_63, eX4_cost_64, eX4_cost_67, eX4_cost_68, eX4_cost_71, eX4_cost_72, eX4_cost_75, eX4_cost_76, eX4_cost_77, eX4_cost_78, eX4_cost_81, eX4_cost_84, eX4_cost_85, eX4_cost_86, eX4_cost_89, eX4_cost_92, eX4_cost_94, evb_some, evm_some, evc_some, evc_none, gd, if_true, if_false, eq_self, and_self, and_true, true_and, ne_eq, not_false_eq_true, or_true, true_or, cf0_0, cf0_1, cf0_2, cf0_3, cf0_4, cf0_5, cf0_6, cf23_0, cf23_1, cf23_2, cf23_3, cf48_0, cf48_1, cf50_0, cf50_1, cg0, cg23, cg48, cg50, cg1, cg12, cg24, cg35, Int.reduceEq, Int.reduceLT, Int.reduceLE, ↓reduceIte, show (3 : Int) < (m : Int) by omega, coL]
  | succ j ih =>
    intro m mi hmi hm
    have c1 : ¬ (3 : Int) < (m : Int) := by omega
    obtain ⟨e, s1, s2⟩ := T3_isEnough (X := X) (mem := mem) (t := t) (la := la) (g := g) (m := m) h hmi h0 hq hc hto hk (by omega)
    unfold coL
    by_cases q1 : enL n c q P k m (P ^ m) 0 = true
    · rw [if_pos q1] at s2 ⊢
      refine ⟨e, s1, ?_⟩
      rw [eX4_cost_62]
      simp only [eX4_cost_0, eX4_cost_1, eX4_cost_4, eX4_cost_5, eX4_cost_8, eX4_cost_11, eX4_cost_12, eX4_cost_13, eX4_cost_16, eX4_cost_17, eX4_cost_18, eX4_cost_19, eX4_cost_22, eX4_cost_23, eX4_cost_25, eX4_cost_28, eX4_cost_29, eX4_cost_30, eX4_cost_32, eX4_cost_35, eX4_cost_36, eX4_cost_38, eX4_cost_41, eX4_cost_42, eX4_cost_43, eX4_cost_46, eX4_cost_47, eX4_cost_50, eX4_cost_53, eX4_cost_54, eX4_cost_56, eX4_cost_59, eX4_cost_60, eX4_cost_61, eX4_cost_63, eX4_cost_64, eX4_cost_67, eX4_cost_68, eX4_cost_71, eX4_cost_72, eX4_cost_75, eX4_cost_76, eX4_cost_77, eX4_cost_78, eX4_cost_81, eX4_cost_84, eX4_cost_85, eX4_cost_86, eX4_cost_89, eX4_cost_92, eX4_cost_94, evb_some, evm_some, evc_some, evc_none, gd, if_true, if_false, eq_self, and_self, and_true, true_and, ne_eq, not_false_eq_true, or_true, true_or, cf0_0, cf0_1, cf0_2, cf0_3, cf0_4, cf0_5, cf0_6, cf23_0, cf23_1, cf23_2, cf23_3, cf48_0, cf48_1, cf50_0, cf50_1, cg0, cg23, cg48, cg50, cg1, cg12, cg24, cg35, Int.reduceEq, Int.reduceLT, Int.reduceLE, ↓reduceIte, c1, s2]
    · rw [if_neg q1] at s2 ⊢
      obtain ⟨d', h1, h2⟩ := ih (m + 1) e s1 (by omega)
      refine ⟨d', h1, ?_⟩
      rw [eX4_cost_62]
      simp only [eX4_cost_0, eX4_cost_1, eX4_cost_4, eX4_cost_5, eX4_cost_8, eX4_cost_11, eX4_cost_12, eX4_cost_13, eX4_cost_16, eX4_cost_17, eX4_cost_18, eX4_cost_19, eX4_cost_22, eX4_cost_23, eX4_cost_25, eX4_cost_28, eX4_cost_29, eX4_cost_30, eX4_cost_32, eX4_cost_35, eX4_cost_36, eX4_cost_38, eX4_cost_41, eX4_cost_42, eX4_cost_43, eX4_cost_46, eX4_cost_47, eX4_cost_50, eX4_cost_53, eX4_cost_54, eX4_cost_56, eX4_cost_59, eX4_cost_60, eX4_cost_61, eX4_cost_63, eX4_cost_64, eX4_cost_67, eX4_cost_68, eX4_cost_71, eX4_cost_72, eX4_cost_75, eX4_cost_76, eX4_cost_77, eX4_cost_78, eX4_cost_81, eX4_cost_84, eX4_cost_85, eX4_cost_86, eX4_cost_89, eX4_cost_92, eX4_cost_94, evb_some, evm_some, evc_some, evc_none, gd, if_true, if_false, eq_self, and_self, and_true, true_and, ne_eq, not_false_eq_true, or_true, true_or, cf0_0, cf0_1, cf0_2, cf0_3, cf0_4, cf0_5, cf0_6, cf23_0, cf23_1, cf23_2, cf23_3, cf48_0, cf48_1, cf50_0, cf50_1, cg0, cg23, cg48, cg50, cg1, cg12, cg24, cg35, Int.reduceEq, Int.reduceLT, Int.reduceLE, ↓reduceIte, c1, s2, w32_k1 (show m < 2147483647 by omega)]
      exact h2
/-! the reference's codes -/
def dgL : Nat → Nat → List Nat
  | 0, _ => []
  | f + 1, k => if k = 0 then [] else if k % 7 = 0 then dgL f (k / 7) else (k % 7 - 1) :: dgL f (k / 7)
theorem dgL_0 : ∀ f, dgL f 0 = []
  | 0 => rfl
  | f + 1 => by unfold dgL; rw [if_pos rfl]
theorem dgL_s (f k : Nat) : dgL (f + 1) k = if k = 0 then [] else if k % 7 = 0 then dgL f (k / 7) else (k % 7 - 1) :: dgL f (k / 7) := rfl
theorem dgL_c (f a k : Nat) (ha : a < 6) : dgL (f + 1) (a + 1 + 7 * k) = a :: dgL f k := by
  rw [dgL_s, if_neg (by omega), if_neg (by omega), show (a + 1 + 7 * k) % 7 - 1 = a by omega, show (a + 1 + 7 * k) / 7 = k by omega]
theorem dgL_len : ∀ f k, (dgL f k).length ≤ f
  | 0, _ => Nat.le_refl _
  | f + 1, k => by
    have h := dgL_len f (k / 7)
    unfold dgL
    split
    · exact Nat.zero_le _
    · split
      · omega
      · rw [List.length_cons]; omega
theorem code_of {P q : Nat} (hP : P ≤ 6) : ∀ L : List Nat, vld P q L → L.length ≤ 3 → ∃ k, k < 343 ∧ dgL 3 k = L
  | [], _, _ => ⟨0, by decide, rfl⟩
  | [a], h, _ => by
    have ha := (h a (by simp)).1
    exact ⟨a + 1 + 7 * 0, by omega, by rw [dgL_c _ _ _ (by omega), dgL_0]⟩
  | [a, b], h, _ => by
    have ha := (h a (by simp)).1
    have hb := (h b (by simp)).1
    exact ⟨a + 1 + 7 * (b + 1 + 7 * 0), by omega, by rw [dgL_c _ _ _ (by omega), dgL_c _ _ _ (by omega), dgL_0]⟩
  | [a, b, e], h, _ => by
    have ha := (h a (by simp)).1
    have hb := (h b (by simp)).1
    have he := (h e (by simp)).1
    exact ⟨a + 1 + 7 * (b + 1 + 7 * (e + 1 + 7 * 0)), by omega, by rw [dgL_c _ _ _ (by omega), dgL_c _ _ _ (by omega), dgL_c _ _ _ (by omega), dgL_0]⟩
  | a :: b :: e :: x :: L, _, h => by
    simp only [List.length_cons] at h
    omega
/-- how many slights of a code; 1000 if it names one who can't -/
def soL (P q : Nat) : Nat → Nat → Nat → Nat
  | 0, _, s => s
  | f + 1, k, s => if k = 0 then s else if k % 7 = 0 then soL P q f (k / 7) s else if k % 7 - 1 = q then 1000 else if k % 7 - 1 < P then soL P q f (k / 7) (s + 1) else 1000
theorem soL_v (P q : Nat) : ∀ (f k s : Nat), (vld P q (dgL f k) → soL P q f k s = s + (dgL f k).length) ∧ (¬ vld P q (dgL f k) → soL P q f k s = 1000)
  | 0, k, s => ⟨fun _ => rfl, fun z => absurd (fun a ha => absurd ha (List.not_mem_nil)) z⟩
  | f + 1, k, s => by
    unfold dgL soL
    by_cases q1 : k = 0
    · simp only [if_pos q1]
      exact ⟨fun _ => rfl, fun z => absurd (fun a ha => absurd ha (List.not_mem_nil)) z⟩
    · simp only [if_neg q1]
      by_cases q2 : k % 7 = 0
      · simp only [if_pos q2]
        exact soL_v P q f (k / 7) s
      · simp only [if_neg q2]
        have ih := soL_v P q f (k / 7) (s + 1)
        refine ⟨fun hv => ?_, fun hv => ?_⟩
        · have h1 := hv (k % 7 - 1) (List.mem_cons_self ..)
          rw [if_neg h1.2, if_pos h1.1, ih.1 (fun a ha => hv a (List.mem_cons_of_mem _ ha)), List.length_cons]
          omega
        · by_cases q3 : k % 7 - 1 = q
          · rw [if_pos q3]
          · rw [if_neg q3]
            by_cases q4 : k % 7 - 1 < P
            · rw [if_pos q4]
              refine ih.2 fun z => hv fun a ha => ?_
              rcases List.mem_cons.1 ha with e | e
              · rw [e]; exact ⟨q4, q3⟩
              · exact z a e
            · rw [if_neg q4]
theorem d7 {k : Nat} (hk : k < 2147483648) : w32 (w32 ((k : Int).tmod 7) - 1) = ((k % 7 : Nat) : Int) - 1 ∧ w32 ((k : Int).tdiv 7) = ((k / 7 : Nat) : Int) := by
  have h1 : (k : Int).tmod 7 = ((k % 7 : Nat) : Int) := rfl
  have h2 : (k : Int).tdiv 7 = ((k / 7 : Nat) : Int) := rfl
  rw [h1, h2, w32_id (n := ((k % 7 : Nat) : Int)) (by omega) (by omega)]
  exact ⟨w32_id (by omega) (by omega), w32_id (by omega) (by omega)⟩
theorem T5_slightsOf {P q c k : Nat} (h : DW d) (h0 : d.1 0 = (P : Int)) (hq : q < P) (hc : (c : Int) < d.1 1) (hto : (d.2 6).getD c 0 = (q : Int)) (hk : k < 343) : ev X m_X5_slightsOf 0 [vR 53, vI (c : Int), vI (k : Int), vS, vS, vS] [] (mpt mem g d) = some (some (vI ((soL P q 3 k 0 : Nat) : Int)), mpt mem g d) := by
  have h8 := h.2.2.1.2
  have l6 : (d.2 6).length = 8 := h.1.2.2.2.2.2.1
  have c8 : c < 8 := by omega
  have key : ∀ (f r s : Nat) (z : AV), r < 7 ^ f → f ≤ 3 → s + f ≤ 3 → ev X m_X5_slightsOf 5 [vR 53, vI (c : Int), vI (k : Int), vI (s : Int), vI (r : Int), z] [] (mpt mem g d) = some (some (vI ((soL P q f r s : Nat) : Int)), mpt mem g d) := by
    intro f
    induction f with
    | zero =>
      intro r s z hr hf hs
      rw [Nat.pow_zero] at hr
      rw [eX5_slightsOf_5]
      simp only [eX5_slightsOf_0, eX5_slightsOf_1, eX5_slightsOf_2, eX5_slightsOf_3, eX5_slightsOf_7, eX5_slightsOf_10, eX5_slightsOf_12, eX5_slightsOf_14, eX5_slightsOf_15, eX5_slightsOf_16, eX5_slightsOf_17, eX5_slightsOf_19, eX5_slightsOf_21, eX5_slightsOf_22, eX5_slightsOf_25, eX5_slightsOf_26, eX5_slightsOf_27, eX5_slightsOf_30, eX5_slightsOf_32, eX5_slightsOf_33, eX5_slightsOf_36, eX5_slightsOf_39, eX5_slightsOf_42, eX5_slightsOf_43, eX5_slightsOf_44, eX5_slightsOf_46, eX5_slightsOf_49, eX5_slightsOf_50, eX5_slightsOf_53, eX5_slightsOf_54, eX5_slightsOf_55, eX5_slightsOf_56, eX5_slightsOf_58, eX5_slightsOf_60, eX5_slightsOf_61, eX5_slightsOf_63, eX5_slightsOf_66, eX5_slightsOf_67, evb_some, evm_some, evc_some, evc_none, gd, if_true, if_false, eq_self, and_self, and_true, true_and, ne_eq, not_false_eq_true, or_true, true_or, mg, mf0, mf1, mf2, mf3, mf4, mf5, mf6, mf7, mf8, mf9, mf10, mf11, mf12, mf13, mf14, mf15, mf16, mf17, mf18, mf19, mf20, mf21, mf22, mf23, mf24, mf25, mf26, mf27, ma54, ma55, ma56, ma57, ma58, ma59, ma60, ma61, ma62, ma63, ma64, ma65, ma66, ma67, ma68, ma69, ma70, ma71, Int.reduceEq, Int.reduceLT, Int.reduceLE, ↓reduceIte, show ¬ (0 : Int) < (r : Int) by omega, soL]
    | succ f ih =>
      intro r s z hr hf hs
      have hp : (7 : Nat) ^ (f + 1) ≤ 7 ^ 3 := Nat.pow_le_pow_right (by decide) hf
      rw [show (7 : Nat) ^ 3 = 343 by decide] at hp
      have hr2 : r / 7 < 7 ^ f := by
        rw [Nat.pow_succ] at hr
        omega
      have hd := d7 (show r < 2147483648 by omega)
      unfold soL
      rw [eX5_slightsOf_5]
      by_cases q1 : r = 0
      · rw [if_pos q1]
        simp only [eX5_slightsOf_0, eX5_slightsOf_1, eX5_slightsOf_2, eX5_slightsOf_3, eX5_slightsOf_7, eX5_slightsOf_10, eX5_slightsOf_12, eX5_slightsOf_14, eX5_slightsOf_15, eX5_slightsOf_16, eX5_slightsOf_17, eX5_slightsOf_19, eX5_slightsOf_21, eX5_slightsOf_22, eX5_slightsOf_25, eX5_slightsOf_26, eX5_slightsOf_27, eX5_slightsOf_30, eX5_slightsOf_32, eX5_slightsOf_33, eX5_slightsOf_36, eX5_slightsOf_39, eX5_slightsOf_42, eX5_slightsOf_43, eX5_slightsOf_44, eX5_slightsOf_46, eX5_slightsOf_49, eX5_slightsOf_50, eX5_slightsOf_53, eX5_slightsOf_54, eX5_slightsOf_55, eX5_slightsOf_56, eX5_slightsOf_58, eX5_slightsOf_60, eX5_slightsOf_61, eX5_slightsOf_63, eX5_slightsOf_66, eX5_slightsOf_67, evb_some, evm_some, evc_some, evc_none, gd, if_true, if_false, eq_self, and_self, and_true, true_and, ne_eq, not_false_eq_true, or_true, true_or, mg, mf0, mf1, mf2, mf3, mf4, mf5, mf6, mf7, mf8, mf9, mf10, mf11, mf12, mf13, mf14, mf15, mf16, mf17, mf18, mf19, mf20, mf21, mf22, mf23, mf24, mf25, mf26, mf27, ma54, ma55, ma56, ma57, ma58, ma59, ma60, ma61, ma62, ma63, ma64, ma65, ma66, ma67, ma68, ma69, ma70, ma71, Int.reduceEq, Int.reduceLT, Int.reduceLE, ↓reduceIte, show ¬ (0 : Int) < (r : Int) by omega]
      · rw [if_neg q1]
        have c1 : (0 : Int) < (r : Int) := by omega
        by_cases q2 : r % 7 = 0
        · rw [if_pos q2]
          have w0 := w32_id (show -2147483648 ≤ (s : Int) by omega) (show (s : Int) < 2147483648 by omega)
          simp only [eX5_slightsOf_0, eX5_slightsOf_1, eX5_slightsOf_2, eX5_slightsOf_3, eX5_slightsOf_7, eX5_slightsOf_10, eX5_slightsOf_12, eX5_slightsOf_14, eX5_slightsOf_15, eX5_slightsOf_16, eX5_slightsOf_17, eX5_slightsOf_19, eX5_slightsOf_21, eX5_slightsOf_22, eX5_slightsOf_25, eX5_slightsOf_26, eX5_slightsOf_27, eX5_slightsOf_30, eX5_slightsOf_32, eX5_slightsOf_33, eX5_slightsOf_36, eX5_slightsOf_39, eX5_slightsOf_42, eX5_slightsOf_43, eX5_slightsOf_44, eX5_slightsOf_46, eX5_slightsOf_49, eX5_slightsOf_50, eX5_slightsOf_53, eX5_slightsOf_54, eX5_slightsOf_55, eX5_slightsOf_56, eX5_slightsOf_58, eX5_slightsOf_60, eX5_slightsOf_61, eX5_slightsOf_63, eX5_slightsOf_66, eX5_slightsOf_67, evb_some, evm_some, evc_some, evc_none, gd, if_true, if_false, eq_self, and_self, and_true, true_and, ne_eq, not_false_eq_true, or_true, true_or, mg, mf0, mf1, mf2, mf3, mf4, mf5, mf6, mf7, mf8, mf9, mf10, mf11, mf12, mf13, mf14, mf15, mf16, mf17, mf18, mf19, mf20, mf21, mf22, mf23, mf24, mf25, mf26, mf27, ma54, ma55, ma56, ma57, ma58, ma59, ma60, ma61, ma62, ma63, ma64, ma65, ma66, ma67, ma68, ma69, ma70, ma71, Int.reduceEq, Int.reduceLT, Int.reduceLE, ↓reduceIte, c1, if_neg z7, hd.1, hd.2, l6, c8, hto, h0, show ¬ ((r % 7 : Nat) : Int) - 1 = (q : Int) by omega, show ((r % 7 : Nat) : Int) - 1 < (P : Int) by omega, show ((r % 7 : Nat) : Int) - 1 < 0 by omega, Int.add_zero, w0]
          exact ih _ _ _ hr2 (by omega) (by omega)
        · rw [if_neg q2]
          by_cases q3 : r % 7 - 1 = q
          · rw [if_pos q3]
            simp only [eX5_slightsOf_0, eX5_slightsOf_1, eX5_slightsOf_2, eX5_slightsOf_3, eX5_slightsOf_7, eX5_slightsOf_10, eX5_slightsOf_12, eX5_slightsOf_14, eX5_slightsOf_15, eX5_slightsOf_16, eX5_slightsOf_17, eX5_slightsOf_19, eX5_slightsOf_21, eX5_slightsOf_22, eX5_slightsOf_25, eX5_slightsOf_26, eX5_slightsOf_27, eX5_slightsOf_30, eX5_slightsOf_32, eX5_slightsOf_33, eX5_slightsOf_36, eX5_slightsOf_39, eX5_slightsOf_42, eX5_slightsOf_43, eX5_slightsOf_44, eX5_slightsOf_46, eX5_slightsOf_49, eX5_slightsOf_50, eX5_slightsOf_53, eX5_slightsOf_54, eX5_slightsOf_55, eX5_slightsOf_56, eX5_slightsOf_58, eX5_slightsOf_60, eX5_slightsOf_61, eX5_slightsOf_63, eX5_slightsOf_66, eX5_slightsOf_67, evb_some, evm_some, evc_some, evc_none, gd, if_true, if_false, eq_self, and_self, and_true, true_and, ne_eq, not_false_eq_true, or_true, true_or, mg, mf0, mf1, mf2, mf3, mf4, mf5, mf6, mf7, mf8, mf9, mf10, mf11, mf12, mf13, mf14, mf15, mf16, mf17, mf18, mf19, mf20, mf21, mf22, mf23, mf24, mf25, mf26, mf27, ma54, ma55, ma56, ma57, ma58, ma59, ma60, ma61, ma62, ma63, ma64, ma65, ma66, ma67, ma68, ma69, ma70, ma71, Int.reduceEq, Int.reduceLT, Int.reduceLE, ↓reduceIte, c1, if_neg z7, hd.1, l6, c8, hto, show ((r % 7 : Nat) : Int) - 1 = (q : Int) by omega]
            rfl
          · rw [if_neg q3]
            by_cases q4 : r % 7 - 1 < P
            · rw [if_pos q4]
              simp only [eX5_slightsOf_0, eX5_slightsOf_1, eX5_slightsOf_2, eX5_slightsOf_3, eX5_slightsOf_7, eX5_slightsOf_10, eX5_slightsOf_12, eX5_slightsOf_14, eX5_slightsOf_15, eX5_slightsOf_16, eX5_slightsOf_17, eX5_slightsOf_19, eX5_slightsOf_21, eX5_slightsOf_22, eX5_slightsOf_25, eX5_slightsOf_26, eX5_slightsOf_27, eX5_slightsOf_30, eX5_slightsOf_32, eX5_slightsOf_33, eX5_slightsOf_36, eX5_slightsOf_39, eX5_slightsOf_42, eX5_slightsOf_43, eX5_slightsOf_44, eX5_slightsOf_46, eX5_slightsOf_49, eX5_slightsOf_50, eX5_slightsOf_53, eX5_slightsOf_54, eX5_slightsOf_55, eX5_slightsOf_56, eX5_slightsOf_58, eX5_slightsOf_60, eX5_slightsOf_61, eX5_slightsOf_63, eX5_slightsOf_66, eX5_slightsOf_67, evb_some, evm_some, evc_some, evc_none, gd, if_true, if_false, eq_self, and_self, and_true, true_and, ne_eq, not_false_eq_true, or_true, true_or, mg, mf0, mf1, mf2, mf3, mf4, mf5, mf6, mf7, mf8, mf9, mf10, mf11, mf12, mf13, mf14, mf15, mf16, mf17, mf18, mf19, mf20, mf21, mf22, mf23, mf24, mf25, mf26, mf27, ma54, ma55, ma56, ma57, ma58, ma59, ma60, ma61, ma62, ma63, ma64, ma65, ma66, ma67, ma68, ma69, ma70, ma71, Int.reduceEq, Int.reduceLT, Int.reduceLE, ↓reduceIte, c1, if_neg z7, hd.1, hd.2, l6, c8, hto, h0, show ¬ ((r % 7 : Nat) : Int) - 1 = (q : Int) by omega, show ((r % 7 : Nat) : Int) - 1 < (P : Int) by omega, show ¬ ((r % 7 : Nat) : Int) - 1 < 0 by omega, w32_k1 (show s < 2147483647 by omega)]
              exact ih _ _ _ hr2 (by omega) (by omega)
            · rw [if_neg q4]
              simp only [eX5_slightsOf_0, eX5_slightsOf_1, eX5_slightsOf_2, eX5_slightsOf_3, eX5_slightsOf_7, eX5_slightsOf_10, eX5_slightsOf_12, eX5_slightsOf_14, eX5_slightsOf_15, eX5_slightsOf_16, eX5_slightsOf_17, eX5_slightsOf_19, eX5_slightsOf_21, eX5_slightsOf_22, eX5_slightsOf_25, eX5_slightsOf_26, eX5_slightsOf_27, eX5_slightsOf_30, eX5_slightsOf_32, eX5_slightsOf_33, eX5_slightsOf_36, eX5_slightsOf_39, eX5_slightsOf_42, eX5_slightsOf_43, eX5_slightsOf_44, eX5_slightsOf_46, eX5_slightsOf_49, eX5_slightsOf_50, eX5_slightsOf_53, eX5_slightsOf_54, eX5_slightsOf_55, eX5_slightsOf_56, eX5_slightsOf_58, eX5_slightsOf_60, eX5_slightsOf_61, eX5_slightsOf_63, eX5_slightsOf_66, eX5_slightsOf_67, evb_some, evm_some, evc_some, evc_none, gd, if_true, if_false, eq_self, and_self, and_true, true_and, ne_eq, not_false_eq_true, or_true, true_or, mg, mf0, mf1, mf2, mf3, mf4, mf5, mf6, mf7, mf8, mf9, mf10, mf11, mf12, mf13, mf14, mf15, mf16, mf17, mf18, mf19, mf20, mf21, mf22, mf23, mf24, mf25, mf26, mf27, ma54, ma55, ma56, ma57, ma58, ma59, ma60, ma61, ma62, ma63, ma64, ma65, ma66, ma67, ma68, ma69, ma70, ma71, Int.reduceEq, Int.reduceLT, Int.reduceLE, ↓reduceIte, c1, if_neg z7, hd.1, l6, c8, hto, h0, show ¬ ((r % 7 : Nat) : Int) - 1 = (q : Int) by omega, show ¬ ((r % 7 : Nat) : Int) - 1 < (P : Int) by omega]
              rfl
  refine Eq.trans ?_ (key 3 k 0 vS (by rw [show (7 : Nat) ^ 3 = 343 by decide]; exact hk) (by omega) (by omega))
  simp only [eX5_slightsOf_0, eX5_slightsOf_1, eX5_slightsOf_2, eX5_slightsOf_3]
  rfl
theorem T5_bringsIn {P q c k x : Nat} (h : DW d) (hl : (g.2 5).length = 309) (h0 : d.1 0 = (P : Int)) (hq : q < P) (hc : (c : Int) < d.1 1) (hto : (d.2 6).getD c 0 = (q : Int)) (hx : x < 343) (hv : vld P q (dgL 3 x)) : ∃ g', GQ g g' 103 ∧ ev X m_X5_bringsIn 0 [vR 53, vI (c : Int), vI (x : Int), vI (k : Int), vS, vS] [] (mpt mem g d) = some (some (vI (if lat (slD q (dgL 3 x) d) c ≤ (k : Int) then 1 else 0)), mpt mem g' d) := by
  have h8 := h.2.2.1.2
  have hP : P ≤ 6 := by have := h.2.1.2; omega
  have hL := h.1
  have c8 : c < 8 := by omega
  have q6 : q < 6 := by omega
  have key : ∀ (f r : Nat) (e : ST) (z : AV), r < 7 ^ f → f ≤ 3 → vld P q (dgL f r) → DW e → e.1 = d.1 → e.2 6 = d.2 6 → ∃ z1 z2, ev X m_X5_bringsIn 7 [vR 53, vI (c : Int), vI (x : Int), vI (k : Int), vI (r : Int), z] [] (mpt mem (gC g d) e) = ev X m_X5_bringsIn 60 [vR 53, vI (c : Int), vI (x : Int), vI (k : Int), z1, z2] [] (mpt mem (gC g d) (slD q (dgL f r) e)) := by
    intro f
    induction f with
    | zero =>
      intro r e z hr hf hv he he1 he6
      rw [Nat.pow_zero] at hr
      refine ⟨vI (r : Int), z, ?_⟩
      rw [eX5_bringsIn_7]
      simp only [eX5_bringsIn_9, eX5_bringsIn_12, eX5_bringsIn_14, eX5_bringsIn_16, eX5_bringsIn_17, eX5_bringsIn_18, eX5_bringsIn_19, eX5_bringsIn_21, eX5_bringsIn_23, eX5_bringsIn_26, eX5_bringsIn_28, eX5_bringsIn_29, eX5_bringsIn_32, eX5_bringsIn_33, eX5_bringsIn_34, eX5_bringsIn_37, eX5_bringsIn_38, eX5_bringsIn_40, eX5_bringsIn_41, eX5_bringsIn_44, eX5_bringsIn_45, eX5_bringsIn_46, eX5_bringsIn_47, eX5_bringsIn_50, eX5_bringsIn_52, eX5_bringsIn_54, eX5_bringsIn_55, eX5_bringsIn_57, evb_some, evm_some, evc_some, evc_none, gd, if_true, if_false, eq_self, and_self, and_true, true_and, ne_eq, not_false_eq_true, or_true, true_or, mg, mf0, mf1, mf2, mf3, mf4, mf5, mf6, mf7, mf8, mf9, mf10, mf11, mf12, mf13, mf14, mf15, mf16, mf17, mf18, mf19, mf20, mf21, mf22, mf23, mf24, mf25, mf26, mf27, ma54, ma55, ma56, ma57, ma58, ma59, ma60, ma61, ma62, ma63, ma64, ma65, ma66, ma67, ma68, ma69, ma70, ma71, Int.reduceEq, Int.reduceLT, Int.reduceLE, ↓reduceIte, show ¬ (0 : Int) < (r : Int) by omega, dgL, slD]
    | succ f ih =>
      intro r e z hr hf hv he he1 he6
      have hp : (7 : Nat) ^ (f + 1) ≤ 7 ^ 3 := Nat.pow_le_pow_right (by decide) hf
      rw [show (7 : Nat) ^ 3 = 343 by decide] at hp
      have hr2 : r / 7 < 7 ^ f := by
        rw [Nat.pow_succ] at hr
        omega
      have hd := d7 (show r < 2147483648 by omega)
      have l6 : (e.2 6).length = 8 := he.1.2.2.2.2.2.1
      have hto2 : (e.2 6).getD c 0 = (q : Int) := by rw [he6]; exact hto
      unfold dgL at hv ⊢
      by_cases q1 : r = 0
      · rw [if_pos q1]
        refine ⟨vI (r : Int), z, ?_⟩
        rw [eX5_bringsIn_7]
        simp only [eX5_bringsIn_9, eX5_bringsIn_12, eX5_bringsIn_14, eX5_bringsIn_16, eX5_bringsIn_17, eX5_bringsIn_18, eX5_bringsIn_19, eX5_bringsIn_21, eX5_bringsIn_23, eX5_bringsIn_26, eX5_bringsIn_28, eX5_bringsIn_29, eX5_bringsIn_32, eX5_bringsIn_33, eX5_bringsIn_34, eX5_bringsIn_37, eX5_bringsIn_38, eX5_bringsIn_40, eX5_bringsIn_41, eX5_bringsIn_44, eX5_bringsIn_45, eX5_bringsIn_46, eX5_bringsIn_47, eX5_bringsIn_50, eX5_bringsIn_52, eX5_bringsIn_54, eX5_bringsIn_55, eX5_bringsIn_57, evb_some, evm_some, evc_some, evc_none, gd, if_true, if_false, eq_self, and_self, and_true, true_and, ne_eq, not_false_eq_true, or_true, true_or, mg, mf0, mf1, mf2, mf3, mf4, mf5, mf6, mf7, mf8, mf9, mf10, mf11, mf12, mf13, mf14, mf15, mf16, mf17, mf18, mf19, mf20, mf21, mf22, mf23, mf24, mf25, mf26, mf27, ma54, ma55, ma56, ma57, ma58, ma59, ma60, ma61, ma62, ma63, ma64, ma65, ma66, ma67, ma68, ma69, ma70, ma71, Int.reduceEq, Int.reduceLT, Int.reduceLE, ↓reduceIte, show ¬ (0 : Int) < (r : Int) by omega, slD]
      · rw [if_neg q1] at hv ⊢
        have c1 : (0 : Int) < (r : Int) := by omega
        by_cases q2 : r % 7 = 0
        · rw [if_pos q2] at hv ⊢
          obtain ⟨z1, z2, hz⟩ := ih (r / 7) e (vI (((r % 7 : Nat) : Int) - 1)) hr2 (by omega) hv he he1 he6
          refine ⟨z1, z2, ?_⟩
          rw [eX5_bringsIn_7]
          simp only [eX5_bringsIn_9, eX5_bringsIn_12, eX5_bringsIn_14, eX5_bringsIn_16, eX5_bringsIn_17, eX5_bringsIn_18, eX5_bringsIn_19, eX5_bringsIn_21, eX5_bringsIn_23, eX5_bringsIn_26, eX5_bringsIn_28, eX5_bringsIn_29, eX5_bringsIn_32, eX5_bringsIn_33, eX5_bringsIn_34, eX5_bringsIn_37, eX5_bringsIn_38, eX5_bringsIn_40, eX5_bringsIn_41, eX5_bringsIn_44, eX5_bringsIn_45, eX5_bringsIn_46, eX5_bringsIn_47, eX5_bringsIn_50, eX5_bringsIn_52, eX5_bringsIn_54, eX5_bringsIn_55, eX5_bringsIn_57, evb_some, evm_some, evc_some, evc_none, gd, if_true, if_false, eq_self, and_self, and_true, true_and, ne_eq, not_false_eq_true, or_true, true_or, mg, mf0, mf1, mf2, mf3, mf4, mf5, mf6, mf7, mf8, mf9, mf10, mf11, mf12, mf13, mf14, mf15, mf16, mf17, mf18, mf19, mf20, mf21, mf22, mf23, mf24, mf25, mf26, mf27, ma54, ma55, ma56, ma57, ma58, ma59, ma60, ma61, ma62, ma63, ma64, ma65, ma66, ma67, ma68, ma69, ma70, ma71, Int.reduceEq, Int.reduceLT, Int.reduceLE, ↓reduceIte, c1, if_neg z7, hd.1, hd.2, show ((r % 7 : Nat) : Int) - 1 < 0 by omega]
          exact hz
        · rw [if_neg q2] at hv ⊢
          have ha := hv (r % 7 - 1) (List.mem_cons_self ..)
          have e1 : ((r % 7 : Nat) : Int) - 1 = ((r % 7 - 1 : Nat) : Int) := by omega
          have hA := DW_addH (x := 10) he (show ((r % 7 - 1 : Nat) : Int) < e.1 0 by rw [he1, h0]; omega) (show (q : Int) < e.1 0 by rw [he1, h0]; omega) ha.2
          have hsl := T5_slighted (X := X) (mem := mem) (g := gC g d) (t := 1) he.1 (show r % 7 - 1 < 6 by omega) q6
          rw [show w32 (10 * 1) = 10 by decide] at hsl
          obtain ⟨z1, z2, hz⟩ := ih (r / 7) (addH e (r % 7 - 1) q 10) (vI ((r % 7 - 1 : Nat) : Int)) hr2 (by omega) (fun a ha2 => hv a (List.mem_cons_of_mem _ ha2)) hA he1 he6
          refine ⟨z1, z2, ?_⟩
          rw [eX5_bringsIn_7]
          simp only [eX5_bringsIn_9, eX5_bringsIn_12, eX5_bringsIn_14, eX5_bringsIn_16, eX5_bringsIn_17, eX5_bringsIn_18, eX5_bringsIn_19, eX5_bringsIn_21, eX5_bringsIn_23, eX5_bringsIn_26, eX5_bringsIn_28, eX5_bringsIn_29, eX5_bringsIn_32, eX5_bringsIn_33, eX5_bringsIn_34, eX5_bringsIn_37, eX5_bringsIn_38, eX5_bringsIn_40, eX5_bringsIn_41, eX5_bringsIn_44, eX5_bringsIn_45, eX5_bringsIn_46, eX5_bringsIn_47, eX5_bringsIn_50, eX5_bringsIn_52, eX5_bringsIn_54, eX5_bringsIn_55, eX5_bringsIn_57, evb_some, evm_some, evc_some, evc_none, gd, if_true, if_false, eq_self, and_self, and_true, true_and, ne_eq, not_false_eq_true, or_true, true_or, mg, mf0, mf1, mf2, mf3, mf4, mf5, mf6, mf7, mf8, mf9, mf10, mf11, mf12, mf13, mf14, mf15, mf16, mf17, mf18, mf19, mf20, mf21, mf22, mf23, mf24, mf25, mf26, mf27, ma54, ma55, ma56, ma57, ma58, ma59, ma60, ma61, ma62, ma63, ma64, ma65, ma66, ma67, ma68, ma69, ma70, ma71, Int.reduceEq, Int.reduceLT, Int.reduceLE, ↓reduceIte, c1, if_neg z7, hd.1, hd.2, e1, show ¬ ((r % 7 - 1 : Nat) : Int) < 0 by omega, l6, c8, hto2, show ¬ ((r % 7 - 1 : Nat) : Int) = (q : Int) by omega, hsl]
          exact hz
  obtain ⟨z1, z2, hz⟩ := key 3 x d vS (by rw [show (7 : Nat) ^ 3 = 343 by decide]; exact hx) (by omega) hv h rfl rfl
  have hS := slD_ok hq (dgL 3 x) d hv h h0
  have g1 := GQ_gC (d := d) hl
  have g2 := GQ_gTh (d := slD q (dgL 3 x) d) g1.2.2.1
  have hla := T5_lateOf (X := X) (mem := mem) (g := gC g d) (d := slD q (dgL 3 x) d) (c := c) (y1 := vS) hS.1 g1.2.2.1 (by rw [hS.2.1]; exact hc)
  have hb := T5_changesBack (X := X) (mem := mem) (g2 := gTh (gC g d) (slD q (dgL 3 x) d)) hS.1.1 hL g2.2.2.1 (KB_GQ g2 (KB_gC hl))
  refine ⟨gG (gTh (gC g d) (slD q (dgL 3 x) d)) ((gTh (gC g d) (slD q (dgL 3 x) d)).2 5) 0 206, GQ_trans g1 (GQ_trans (GQ_le g2 (by decide)) (GQ_gG g2.2.2.1 (fun _ _ => rfl))), ?_⟩
  refine Eq.trans (b := ev X m_X5_bringsIn 7 [vR 53, vI (c : Int), vI (x : Int), vI (k : Int), vI (x : Int), vS] [] (mpt mem (gC g d) d)) ?_ (hz.trans ?_)
  · simp only [eX5_bringsIn_0, eX5_bringsIn_1, eX5_bringsIn_4, eX5_bringsIn_5, evb_some, evm_some, evc_some, evc_none, gd, if_true, if_false, eq_self, and_self, and_true, true_and, ne_eq, not_false_eq_true, or_true, true_or, mg, mf0, mf1, mf2, mf3, mf4, mf5, mf6, mf7, mf8, mf9, mf10, mf11, mf12, mf13, mf14, mf15, mf16, mf17, mf18, mf19, mf20, mf21, mf22, mf23, mf24, mf25, mf26, mf27, ma54, ma55, ma56, ma57, ma58, ma59, ma60, ma61, ma62, ma63, ma64, ma65, ma66, ma67, ma68, ma69, ma70, ma71, Int.reduceEq, Int.reduceLT, Int.reduceLE, ↓reduceIte, T5_changes hL hl]
  · by_cases q1 : lat (slD q (dgL 3 x) d) c ≤ (k : Int)
    · simp only [eX5_bringsIn_60, eX5_bringsIn_61, eX5_bringsIn_62, eX5_bringsIn_65, eX5_bringsIn_66, eX5_bringsIn_69, eX5_bringsIn_70, eX5_bringsIn_73, eX5_bringsIn_74, eX5_bringsIn_76, eX5_bringsIn_77, eX5_bringsIn_80, eX5_bringsIn_82a, eX5_bringsIn_82b, eX5_bringsIn_82c, evb_some, evm_some, evc_some, evc_none, gd, if_true, if_false, eq_self, and_self, and_true, true_and, ne_eq, not_false_eq_true, or_true, true_or, mg, mf0, mf1, mf2, mf3, mf4, mf5, mf6, mf7, mf8, mf9, mf10, mf11, mf12, mf13, mf14, mf15, mf16, mf17, mf18, mf19, mf20, mf21, mf22, mf23, mf24, mf25, mf26, mf27, ma54, ma55, ma56, ma57, ma58, ma59, ma60, ma61, ma62, ma63, ma64, ma65, ma66, ma67, ma68, ma69, ma70, ma71, Int.reduceEq, Int.reduceLT, Int.reduceLE, ↓reduceIte, hla, hb, if_pos q1, show ¬ (k : Int) < lat (slD q (dgL 3 x) d) c by omega]
    · simp only [eX5_bringsIn_60, eX5_bringsIn_61, eX5_bringsIn_62, eX5_bringsIn_65, eX5_bringsIn_66, eX5_bringsIn_69, eX5_bringsIn_70, eX5_bringsIn_73, eX5_bringsIn_74, eX5_bringsIn_76, eX5_bringsIn_77, eX5_bringsIn_80, eX5_bringsIn_82a, eX5_bringsIn_82b, eX5_bringsIn_82c, evb_some, evm_some, evc_some, evc_none, gd, if_true, if_false, eq_self, and_self, and_true, true_and, ne_eq, not_false_eq_true, or_true, true_or, mg, mf0, mf1, mf2, mf3, mf4, mf5, mf6, mf7, mf8, mf9, mf10, mf11, mf12, mf13, mf14, mf15, mf16, mf17, mf18, mf19, mf20, mf21, mf22, mf23, mf24, mf25, mf26, mf27, ma54, ma55, ma56, ma57, ma58, ma59, ma60, ma61, ma62, ma63, ma64, ma65, ma66, ma67, ma68, ma69, ma70, ma71, Int.reduceEq, Int.reduceLT, Int.reduceLE, ↓reduceIte, hla, hb, if_neg q1, show (k : Int) < lat (slD q (dgL 3 x) d) c by omega]
/-- one code more -/
def rcF (d : ST) (c q P k x : Nat) (b : Nat) : Nat := if soL P q 3 x 0 < b then (if whS (slD q (dgL 3 x) d) c ≤ k then soL P q 3 x 0 else b) else b
theorem T5_costLoop {P q c k : Nat} (h : DW d) (h0 : d.1 0 = (P : Int)) (hq : q < P) (hc : (c : Int) < d.1 1) (hto : (d.2 6).getD c 0 = (q : Int)) (hk : k ≤ 60) : ∀ (m x b : Nat) (g : ST) (z : AV), (g.2 5).length = 309 → b ≤ 1000 → x + m = 343 → ∃ g', GQ g g' 103 ∧ ev X m_X5_cost 54 [vR 53, vI (c : Int), vI (k : Int), vI 0, vI (b : Int), vI (x : Int), z] [] (mpt mem g d) = some (some (vI (if itr (rcF d c q P k) m x b = 1000 then -9 else ((itr (rcF d c q P k) m x b : Nat) : Int))), mpt mem g' d) := by
  intro m
  induction m with
  | zero =>
    intro x b g z hl hb hx
    refine ⟨g, GQ_rfl hl, ?_⟩
    rw [eX5_cost_54]
    show _ = some (some (vI (if b = 1000 then -9 else (b : Int))), _)
    by_cases q1 : b = 1000
    · rw [if_pos q1]
      simp only [eX5_cost_0, eX5_cost_1, eX5_cost_2, eX5_cost_5, eX5_cost_8, eX5_cost_9, eX5_cost_12, eX5_cost_13, eX5_cost_14, eX5_cost_16, eX5_cost_19, eX5_cost_20, eX5_cost_21, eX5_cost_24, eX5_cost_25, eX5_cost_28, eX5_cost_29, eX5_cost_30, eX5_cost_33, eX5_cost_35, eX5_cost_36, eX5_cost_37, eX5_cost_40, eX5_cost_41, eX5_cost_42, eX5_cost_45, eX5_cost_46, eX5_cost_49, eX5_cost_51, eX5_cost_52, eX5_cost_56, eX5_cost_59, eX5_cost_62, eX5_cost_63, eX5_cost_64, eX5_cost_66, eX5_cost_69, eX5_cost_71, eX5_cost_73, eX5_cost_75, eX5_cost_78, eX5_cost_79, eX5_cost_80, eX5_cost_82, eX5_cost_83, eX5_cost_86, eX5_cost_89, eX5_cost_91, eX5_cost_93, eX5_cost_96, eX5_cost_99, eX5_cost_101, eX5_cost_104, eX5_cost_107, eX5_cost_109, eX5_cost_112, eX5_cost_114, evb_some, evm_some, evc_some, evc_none, gd, if_true, if_false, eq_self, and_self, and_true, true_and, ne_eq, not_false_eq_true, or_true, true_or, mg, mf0, mf1, mf2, mf3, mf4, mf5, mf6, mf7, mf8, mf9, mf10, mf11, mf12, mf13, mf14, mf15, mf16, mf17, mf18, mf19, mf20, mf21, mf22, mf23, mf24, mf25, mf26, mf27, ma54, ma55, ma56, ma57, ma58, ma59, ma60, ma61, ma62, ma63, ma64, ma65, ma66, ma67, ma68, ma69, ma70, ma71, Int.reduceEq, Int.reduceLT, Int.reduceLE, ↓reduceIte, show ¬ (x : Int) < 343 by omega, show (b : Int) = 1000 by omega]
    · rw [if_neg q1]
      simp only [eX5_cost_0, eX5_cost_1, eX5_cost_2, eX5_cost_5, eX5_cost_8, eX5_cost_9, eX5_cost_12, eX5_cost_13, eX5_cost_14, eX5_cost_16, eX5_cost_19, eX5_cost_20, eX5_cost_21, eX5_cost_24, eX5_cost_25, eX5_cost_28, eX5_cost_29, eX5_cost_30, eX5_cost_33, eX5_cost_35, eX5_cost_36, eX5_cost_37, eX5_cost_40, eX5_cost_41, eX5_cost_42, eX5_cost_45, eX5_cost_46, eX5_cost_49, eX5_cost_51, eX5_cost_52, eX5_cost_56, eX5_cost_59, eX5_cost_62, eX5_cost_63, eX5_cost_64, eX5_cost_66, eX5_cost_69, eX5_cost_71, eX5_cost_73, eX5_cost_75, eX5_cost_78, eX5_cost_79, eX5_cost_80, eX5_cost_82, eX5_cost_83, eX5_cost_86, eX5_cost_89, eX5_cost_91, eX5_cost_93, eX5_cost_96, eX5_cost_99, eX5_cost_101, eX5_cost_104, eX5_cost_107, eX5_cost_109, eX5_cost_112, eX5_cost_114, evb_some, evm_some, evc_some, evc_none, gd, if_true, if_false, eq_self, and_self, and_true, true_and, ne_eq, not_false_eq_true, or_true, true_or, mg, mf0, mf1, mf2, mf3, mf4, mf5, mf6, mf7, mf8, mf9, mf10, mf11, mf12, mf13, mf14, mf15, mf16, mf17, mf18, mf19, mf20, mf21, mf22, mf23, mf24, mf25, mf26, mf27, ma54, ma55, ma56, ma57, ma58, ma59, ma60, ma61, ma62, ma63, ma64, ma65, ma66, ma67, ma68, ma69, ma70, ma71, Int.reduceEq, Int.reduceLT, Int.reduceLE, ↓reduceIte, show ¬ (x : Int) < 343 by omega, show ¬ (b : Int) = 1000 by omega]
  | succ m ih =>
    intro x b g z hl hb hx
    have c1 : (x : Int) < 343 := by omega
    have hso := T5_slightsOf (X := X) (mem := mem) (g := g) h h0 hq hc hto (show x < 343 by omega)
    have hsv := soL_v P q 3 x 0
    show ∃ g', GQ g g' 103 ∧ _ = some (some (vI (if itr (rcF d c q P k) m (x + 1) (rcF d c q P k x b) = 1000 then -9 else ((itr (rcF d c q P k) m (x + 1) (rcF d c q P k x b) : Nat) : Int))), mpt mem g' d)
    by_cases q1 : soL P q 3 x 0 < b
    · have hv : vld P q (dgL 3 x) := Classical.byContradiction fun z => by have := hsv.2 z; omega
      obtain ⟨g1, s1, s2⟩ := T5_bringsIn (X := X) (mem := mem) (k := k) h hl h0 hq hc hto (show x < 343 by omega) hv
      have hlw : lat (slD q (dgL 3 x) d) c ≤ (k : Int) ↔ whS (slD q (dgL 3 x) d) c ≤ k := by
        have := whS_le (slD q (dgL 3 x) d) c
        unfold lat
        split <;> omega
      by_cases q2 : whS (slD q (dgL 3 x) d) c ≤ k
      · rw [if_pos (hlw.2 q2)] at s2
        have e : rcF d c q P k x b = soL P q 3 x 0 := by unfold rcF; rw [if_pos q1, if_pos q2]
        rw [e]
        obtain ⟨g', h1, h2⟩ := ih (x + 1) (soL P q 3 x 0) g1 (vI ((soL P q 3 x 0 : Nat) : Int)) s1.2.2.1 (by omega) (by omega)
        refine ⟨g', GQ_trans s1 h1, ?_⟩
        rw [eX5_cost_54]
        simp only [eX5_cost_0, eX5_cost_1, eX5_cost_2, eX5_cost_5, eX5_cost_8, eX5_cost_9, eX5_cost_12, eX5_cost_13, eX5_cost_14, eX5_cost_16, eX5_cost_19, eX5_cost_20, eX5_cost_21, eX5_cost_24, eX5_cost_25, eX5_cost_28, eX5_cost_29, eX5_cost_30, eX5_cost_33, eX5_cost_35, eX5_cost_36, eX5_cost_37, eX5_cost_40, eX5_cost_41, eX5_cost_42, eX5_cost_45, eX5_cost_46, eX5_cost_49, eX5_cost_51, eX5_cost_52, eX5_cost_56, eX5_cost_59, eX5_cost_62, eX5_cost_63, eX5_cost_64, eX5_cost_66, eX5_cost_69, eX5_cost_71, eX5_cost_73, eX5_cost_75, eX5_cost_78, eX5_cost_79, eX5_cost_80, eX5_cost_82, eX5_cost_83, eX5_cost_86, eX5_cost_89, eX5_cost_91, eX5_cost_93, eX5_cost_96, eX5_cost_99, eX5_cost_101, eX5_cost_104, eX5_cost_107, eX5_cost_109, eX5_cost_112, eX5_cost_114, evb_some, evm_some, evc_some, evc_none, gd, if_true, if_false, eq_self, and_self, and_true, true_and, ne_eq, not_false_eq_true, or_true, true_or, mg, mf0, mf1, mf2, mf3, mf4, mf5, mf6, mf7, mf8, mf9, mf10, mf11, mf12, mf13, mf14, mf15, mf16, mf17, mf18, mf19, mf20, mf21, mf22, mf23, mf24, mf25, mf26, mf27, ma54, ma55, ma56, ma57, ma58, ma59, ma60, ma61, ma62, ma63, ma64, ma65, ma66, ma67, ma68, ma69, ma70, ma71, Int.reduceEq, Int.reduceLT, Int.reduceLE, ↓reduceIte, c1, hso, Int.ofNat_lt, if_pos q1, s2, w32_k1 (show x < 2147483647 by omega)]
        exact h2
      · rw [if_neg (fun z => q2 (hlw.1 z))] at s2
        have e : rcF d c q P k x b = b := by unfold rcF; rw [if_pos q1, if_neg q2]
        rw [e]
        obtain ⟨g', h1, h2⟩ := ih (x + 1) b g1 (vI ((soL P q 3 x 0 : Nat) : Int)) s1.2.2.1 hb (by omega)
        refine ⟨g', GQ_trans s1 h1, ?_⟩
        rw [eX5_cost_54]
        simp only [eX5_cost_0, eX5_cost_1, eX5_cost_2, eX5_cost_5, eX5_cost_8, eX5_cost_9, eX5_cost_12, eX5_cost_13, eX5_cost_14, eX5_cost_16, eX5_cost_19, eX5_cost_20, eX5_cost_21, eX5_cost_24, eX5_cost_25, eX5_cost_28, eX5_cost_29, eX5_cost_30, eX5_cost_33, eX5_cost_35, eX5_cost_36, eX5_cost_37, eX5_cost_40, eX5_cost_41, eX5_cost_42, eX5_cost_45, eX5_cost_46, eX5_cost_49, eX5_cost_51, eX5_cost_52, eX5_cost_56, eX5_cost_59, eX5_cost_62, eX5_cost_63, eX5_cost_64, eX5_cost_66, eX5_cost_69, eX5_cost_71, eX5_cost_73, eX5_cost_75, eX5_cost_78, eX5_cost_79, eX5_cost_80, eX5_cost_82, eX5_cost_83, eX5_cost_86, eX5_cost_89, eX5_cost_91, eX5_cost_93, eX5_cost_96, eX5_cost_99, eX5_cost_101, eX5_cost_104, eX5_cost_107, eX5_cost_109, eX5_cost_112, eX5_cost_114, evb_some, evm_some, evc_some, evc_none, gd, if_true, if_false, eq_self, and_self, and_true, true_and, ne_eq, not_false_eq_true, or_true, true_or, mg, mf0, mf1, mf2, mf3, mf4, mf5, mf6, mf7, mf8, mf9, mf10, mf11, mf12, mf13, mf14, mf15, mf16, mf17, mf18, mf19, mf20, mf21, mf22, mf23, mf24, mf25, mf26, mf27, ma54, ma55, ma56, ma57, ma58, ma59, ma60, ma61, ma62, ma63, ma64, ma65, ma66, ma67, ma68, ma69, ma70, ma71, Int.reduceEq, Int.reduceLT, Int.reduceLE, ↓reduceIte, c1, hso, Int.ofNat_lt, if_pos q1, s2, w32_k1 (show x < 2147483647 by omega)]
        exact h2
    · have e : rcF d c q P k x b = b := by unfold rcF; rw [if_neg q1]
      rw [e]
      obtain ⟨g', h1, h2⟩ := ih (x + 1) b g (vI ((soL P q 3 x 0 : Nat) : Int)) hl hb (by omega)
      refine ⟨g', h1, ?_⟩
      rw [eX5_cost_54]
      simp only [eX5_cost_0, eX5_cost_1, eX5_cost_2, eX5_cost_5, eX5_cost_8, eX5_cost_9, eX5_cost_12, eX5_cost_13, eX5_cost_14, eX5_cost_16, eX5_cost_19, eX5_cost_20, eX5_cost_21, eX5_cost_24, eX5_cost_25, eX5_cost_28, eX5_cost_29, eX5_cost_30, eX5_cost_33, eX5_cost_35, eX5_cost_36, eX5_cost_37, eX5_cost_40, eX5_cost_41, eX5_cost_42, eX5_cost_45, eX5_cost_46, eX5_cost_49, eX5_cost_51, eX5_cost_52, eX5_cost_56, eX5_cost_59, eX5_cost_62, eX5_cost_63, eX5_cost_64, eX5_cost_66, eX5_cost_69, eX5_cost_71, eX5_cost_73, eX5_cost_75, eX5_cost_78, eX5_cost_79, eX5_cost_80, eX5_cost_82, eX5_cost_83, eX5_cost_86, eX5_cost_89, eX5_cost_91, eX5_cost_93, eX5_cost_96, eX5_cost_99, eX5_cost_101, eX5_cost_104, eX5_cost_107, eX5_cost_109, eX5_cost_112, eX5_cost_114, evb_some, evm_some, evc_some, evc_none, gd, if_true, if_false, eq_self, and_self, and_true, true_and, ne_eq, not_false_eq_true, or_true, true_or, mg, mf0, mf1, mf2, mf3, mf4, mf5, mf6, mf7, mf8, mf9, mf10, mf11, mf12, mf13, mf14, mf15, mf16, mf17, mf18, mf19, mf20, mf21, mf22, mf23, mf24, mf25, mf26, mf27, ma54, ma55, ma56, ma57, ma58, ma59, ma60, ma61, ma62, ma63, ma64, ma65, ma66, ma67, ma68, ma69, ma70, ma71, Int.reduceEq, Int.reduceLT, Int.reduceLE, ↓reduceIte, c1, hso, Int.ofNat_lt, if_neg q1, w32_k1 (show x < 2147483647 by omega)]
      exact h2
theorem rc_spec (d : ST) (c q P k : Nat) : ∀ (x : Nat), x ≤ 343 → itr (rcF d c q P k) x 0 1000 ≤ 1000 ∧ (itr (rcF d c q P k) x 0 1000 = 1000 ∨ (itr (rcF d c q P k) x 0 1000 ≤ 3 ∧ eno d c q P k (itr (rcF d c q P k) x 0 1000))) ∧ ∀ y, y < x → vld P q (dgL 3 y) → whS (slD q (dgL 3 y) d) c ≤ k → itr (rcF d c q P k) x 0 1000 ≤ (dgL 3 y).length
  | 0, _ => ⟨Nat.le_refl _, Or.inl rfl, fun y hy => by omega⟩
  | x + 1, hx => by
    have ih := rc_spec d c q P k x (by omega)
    rw [itr_succ x 0, Nat.zero_add]
    generalize itr (rcF d c q P k) x 0 1000 = b at ih ⊢
    obtain ⟨h1, h2, h3⟩ := ih
    have hsv := soL_v P q 3 x 0
    have hlen := dgL_len 3 x
    unfold rcF
    by_cases q1 : soL P q 3 x 0 < b
    · rw [if_pos q1]
      have hv : vld P q (dgL 3 x) := Classical.byContradiction fun z => by have := hsv.2 z; omega
      have hs := hsv.1 hv
      by_cases q2 : whS (slD q (dgL 3 x) d) c ≤ k
      · rw [if_pos q2]
        refine ⟨by omega, Or.inr ⟨by omega, dgL 3 x, by omega, hv, q2⟩, fun y hy hvy hwy => ?_⟩
        by_cases e : y = x
        · rw [e]; omega
        · have := h3 y (by omega) hvy hwy
          omega
      · rw [if_neg q2]
        refine ⟨h1, h2, fun y hy hvy hwy => ?_⟩
        by_cases e : y = x
        · rw [e] at hwy
          exact absurd hwy q2
        · exact h3 y (by omega) hvy hwy
    · rw [if_neg q1]
      refine ⟨h1, h2, fun y hy hvy hwy => ?_⟩
      by_cases e : y = x
      · rw [e] at hvy ⊢
        have := hsv.1 hvy
        omega
      · exact h3 y (by omega) hvy hwy
theorem cost_eq {d : ST} {c q P k : Nat} (hP : P ≤ 6) (hP0 : 0 < P) : coL d c q P k 4 0 = if itr (rcF d c q P k) 343 0 1000 = 1000 then -9 else ((itr (rcF d c q P k) 343 0 1000 : Nat) : Int) := by
  have hr := rc_spec d c q P k 343 (Nat.le_refl _)
  have hc := coL_spec d c q P k hP0 4 0
  generalize itr (rcF d c q P k) 343 0 1000 = b at hr ⊢
  obtain ⟨r1, r2, r3⟩ := hr
  have r4 : ∀ i, i ≤ 3 → eno d c q P k i → b ≤ i := fun i hi ⟨L, e1, e2, e3⟩ => by
    obtain ⟨y, y1, y2⟩ := code_of hP L e2 (by omega)
    have := r3 y y1 (by rw [y2]; exact e2) (by rw [y2]; exact e3)
    rw [y2, e1] at this
    exact this
  rcases hc with ⟨h1, h2⟩ | ⟨i, h1, h2, h3, h4, h5⟩
  · rw [h1]
    rcases r2 with r2 | ⟨r2, r5⟩
    · rw [if_pos r2]
    · exact absurd r5 (h2 b (by omega) (by omega))
  · rw [h3]
    have hb := r4 i (by omega) h4
    rcases r2 with r2 | ⟨r2, r5⟩
    · omega
    · rw [if_neg (by omega)]
      have : ¬ b < i := fun z => h5 b (by omega) z r5
      omega
theorem B_cost (h : Rla n t mi la g gm) (c k : Int) : Bth X m_X4_cost [vI c, vI k, vS] m_X5_cost [vI c, vI k, vS, vS, vS, vS] mem n t mi la g gm := by
  have hW := h.1; have hL := hW.1; have h6 := hW.2.1.2; have h8 := hW.2.2.1.2; have hg := Rla_g h; have hm := Rla_m h; obtain ⟨l1, l2, l3, l4, l5, l6, l7, l8, l9, l10⟩ := id hL
  have hkk := Rla_k h
  by_cases c1 : 0 ≤ c ∧ c < n.1 1
  case neg => exact Bth_no1 h (fun M => by simp only [eX4_cost_0, eX4_cost_1, eX4_cost_4, eX4_cost_5, eX4_cost_8, eX4_cost_11, eX4_cost_12, eX4_cost_13, eX4_cost_16, eX4_cost_17, eX4_cost_18, eX4_cost_19, eX4_cost_22, eX4_cost_23, eX4_cost_25, eX4_cost_28, eX4_cost_29, eX4_cost_30, eX4_cost_32, eX4_cost_35, eX4_cost_36, eX4_cost_38, eX4_cost_41, eX4_cost_42, eX4_cost_43, eX4_cost_46, eX4_cost_47, eX4_cost_50, eX4_cost_53, eX4_cost_54, eX4_cost_56, eX4_cost_59, eX4_cost_60, eX4_cost_61, eX4_cost_62, eX4_cost_63, eX4_cost_64, eX4_cost_67, eX4_cost_68, eX4_cost_71, eX4_cost_72, eX4_cost_75, eX4_cost_76, eX4_cost_77, eX4_cost_78, eX4_cost_81, eX4_cost_84, eX4_cost_85, eX4_cost_86, eX4_cost_89, eX4_cost_92, eX4_cost_94, evb_some, evm_some, evc_some, evc_none, gd, if_true, if_false, eq_self, and_self, and_true, true_and, ne_eq, not_false_eq_true, or_true, true_or, cf0_0, cf0_1, cf0_2, cf0_3, cf0_4, cf0_5, cf0_6, cf23_0, cf23_1, cf23_2, cf23_3, cf48_0, cf48_1, cf50_0, cf50_1, cg0, cg23, cg48, cg50, cg1, cg12, cg24, cg35, Int.reduceEq, Int.reduceLT, Int.reduceLE, ↓reduceIte, n_hasParcelN c1, T4_no1 hg]) (fun M => by simp only [eX5_cost_0, eX5_cost_1, eX5_cost_2, eX5_cost_5, eX5_cost_8, eX5_cost_9, eX5_cost_12, eX5_cost_13, eX5_cost_14, eX5_cost_16, eX5_cost_19, eX5_cost_20, eX5_cost_21, eX5_cost_24, eX5_cost_25, eX5_cost_28, eX5_cost_29, eX5_cost_30, eX5_cost_33, eX5_cost_35, eX5_cost_36, eX5_cost_37, eX5_cost_40, eX5_cost_41, eX5_cost_42, eX5_cost_45, evb_some, evm_some, evc_some, evc_none, gd, if_true, if_false, eq_self, and_self, and_true, true_and, ne_eq, not_false_eq_true, or_true, true_or, mg, mf0, mf1, mf2, mf3, mf4, mf5, mf6, mf7, mf8, mf9, mf10, mf11, mf12, mf13, mf14, mf15, mf16, mf17, mf18, mf19, mf20, mf21, mf22, mf23, mf24, mf25, mf26, mf27, ma54, ma55, ma56, ma57, ma58, ma59, ma60, ma61, ma62, ma63, ma64, ma65, ma66, ma67, ma68, ma69, ma70, ma71, Int.reduceEq, Int.reduceLT, Int.reduceLE, ↓reduceIte, T5_isParcelN c1, T5_no1 hm])
  obtain ⟨i, rfl⟩ := n2i c1.1
  have i8 : i < 8 := by omega
  by_cases c2 : k < 1
  · exact Bth_no4 h (fun M => by simp only [eX4_cost_0, eX4_cost_1, eX4_cost_4, eX4_cost_5, eX4_cost_8, eX4_cost_11, eX4_cost_12, eX4_cost_13, eX4_cost_16, eX4_cost_17, eX4_cost_18, eX4_cost_19, eX4_cost_22, eX4_cost_23, eX4_cost_25, eX4_cost_28, eX4_cost_29, eX4_cost_30, eX4_cost_32, eX4_cost_35, eX4_cost_36, eX4_cost_38, eX4_cost_41, eX4_cost_42, eX4_cost_43, eX4_cost_46, eX4_cost_47, eX4_cost_50, eX4_cost_53, eX4_cost_54, eX4_cost_56, eX4_cost_59, eX4_cost_60, eX4_cost_61, eX4_cost_62, eX4_cost_63, eX4_cost_64, eX4_cost_67, eX4_cost_68, eX4_cost_71, eX4_cost_72, eX4_cost_75, eX4_cost_76, eX4_cost_77, eX4_cost_78, eX4_cost_81, eX4_cost_84, eX4_cost_85, eX4_cost_86, eX4_cost_89, eX4_cost_92, eX4_cost_94, evb_some, evm_some, evc_some, evc_none, gd, if_true, if_false, eq_self, and_self, and_true, true_and, ne_eq, not_false_eq_true, or_true, true_or, cf0_0, cf0_1, cf0_2, cf0_3, cf0_4, cf0_5, cf0_6, cf23_0, cf23_1, cf23_2, cf23_3, cf48_0, cf48_1, cf50_0, cf50_1, cg0, cg23, cg48, cg50, cg1, cg12, cg24, cg35, Int.reduceEq, Int.reduceLT, Int.reduceLE, ↓reduceIte, n_hasParcelY c1, T4_no4 hg, c2]) (fun M => by simp only [eX5_cost_0, eX5_cost_1, eX5_cost_2, eX5_cost_5, eX5_cost_8, eX5_cost_9, eX5_cost_12, eX5_cost_13, eX5_cost_14, eX5_cost_16, eX5_cost_19, eX5_cost_20, eX5_cost_21, eX5_cost_24, eX5_cost_25, eX5_cost_28, eX5_cost_29, eX5_cost_30, eX5_cost_33, eX5_cost_35, eX5_cost_36, eX5_cost_37, eX5_cost_40, eX5_cost_41, eX5_cost_42, eX5_cost_45, evb_some, evm_some, evc_some, evc_none, gd, if_true, if_false, eq_self, and_self, and_true, true_and, ne_eq, not_false_eq_true, or_true, true_or, mg, mf0, mf1, mf2, mf3, mf4, mf5, mf6, mf7, mf8, mf9, mf10, mf11, mf12, mf13, mf14, mf15, mf16, mf17, mf18, mf19, mf20, mf21, mf22, mf23, mf24, mf25, mf26, mf27, ma54, ma55, ma56, ma57, ma58, ma59, ma60, ma61, ma62, ma63, ma64, ma65, ma66, ma67, ma68, ma69, ma70, ma71, Int.reduceEq, Int.reduceLT, Int.reduceLE, ↓reduceIte, T5_isParcelY c1, T5_bound, c2, T5_no4 hm])
  by_cases c3 : 60 < k
  · exact Bth_no6 h (fun M => by simp only [eX4_cost_0, eX4_cost_1, eX4_cost_4, eX4_cost_5, eX4_cost_8, eX4_cost_11, eX4_cost_12, eX4_cost_13, eX4_cost_16, eX4_cost_17, eX4_cost_18, eX4_cost_19, eX4_cost_22, eX4_cost_23, eX4_cost_25, eX4_cost_28, eX4_cost_29, eX4_cost_30, eX4_cost_32, eX4_cost_35, eX4_cost_36, eX4_cost_38, eX4_cost_41, eX4_cost_42, eX4_cost_43, eX4_cost_46, eX4_cost_47, eX4_cost_50, eX4_cost_53, eX4_cost_54, eX4_cost_56, eX4_cost_59, eX4_cost_60, eX4_cost_61, eX4_cost_62, eX4_cost_63, eX4_cost_64, eX4_cost_67, eX4_cost_68, eX4_cost_71, eX4_cost_72, eX4_cost_75, eX4_cost_76, eX4_cost_77, eX4_cost_78, eX4_cost_81, eX4_cost_84, eX4_cost_85, eX4_cost_86, eX4_cost_89, eX4_cost_92, eX4_cost_94, evb_some, evm_some, evc_some, evc_none, gd, if_true, if_false, eq_self, and_self, and_true, true_and, ne_eq, not_false_eq_true, or_true, true_or, cf0_0, cf0_1, cf0_2, cf0_3, cf0_4, cf0_5, cf0_6, cf23_0, cf23_1, cf23_2, cf23_3, cf48_0, cf48_1, cf50_0, cf50_1, cg0, cg23, cg48, cg50, cg1, cg12, cg24, cg35, Int.reduceEq, Int.reduceLT, Int.reduceLE, ↓reduceIte, n_hasParcelY c1, T4_no6 hg, c2, c3]) (fun M => by simp only [eX5_cost_0, eX5_cost_1, eX5_cost_2, eX5_cost_5, eX5_cost_8, eX5_cost_9, eX5_cost_12, eX5_cost_13, eX5_cost_14, eX5_cost_16, eX5_cost_19, eX5_cost_20, eX5_cost_21, eX5_cost_24, eX5_cost_25, eX5_cost_28, eX5_cost_29, eX5_cost_30, eX5_cost_33, eX5_cost_35, eX5_cost_36, eX5_cost_37, eX5_cost_40, eX5_cost_41, eX5_cost_42, eX5_cost_45, evb_some, evm_some, evc_some, evc_none, gd, if_true, if_false, eq_self, and_self, and_true, true_and, ne_eq, not_false_eq_true, or_true, true_or, mg, mf0, mf1, mf2, mf3, mf4, mf5, mf6, mf7, mf8, mf9, mf10, mf11, mf12, mf13, mf14, mf15, mf16, mf17, mf18, mf19, mf20, mf21, mf22, mf23, mf24, mf25, mf26, mf27, ma54, ma55, ma56, ma57, ma58, ma59, ma60, ma61, ma62, ma63, ma64, ma65, ma66, ma67, ma68, ma69, ma70, ma71, Int.reduceEq, Int.reduceLT, Int.reduceLE, ↓reduceIte, T5_isParcelY c1, T5_bound, c2, c3, T5_no6 hm])
  by_cases c4 : (n.2 8).getD i 0 = 0
  case neg => exact Bth_no3 h (fun M => by simp only [eX4_cost_0, eX4_cost_1, eX4_cost_4, eX4_cost_5, eX4_cost_8, eX4_cost_11, eX4_cost_12, eX4_cost_13, eX4_cost_16, eX4_cost_17, eX4_cost_18, eX4_cost_19, eX4_cost_22, eX4_cost_23, eX4_cost_25, eX4_cost_28, eX4_cost_29, eX4_cost_30, eX4_cost_32, eX4_cost_35, eX4_cost_36, eX4_cost_38, eX4_cost_41, eX4_cost_42, eX4_cost_43, eX4_cost_46, eX4_cost_47, eX4_cost_50, eX4_cost_53, eX4_cost_54, eX4_cost_56, eX4_cost_59, eX4_cost_60, eX4_cost_61, eX4_cost_62, eX4_cost_63, eX4_cost_64, eX4_cost_67, eX4_cost_68, eX4_cost_71, eX4_cost_72, eX4_cost_75, eX4_cost_76, eX4_cost_77, eX4_cost_78, eX4_cost_81, eX4_cost_84, eX4_cost_85, eX4_cost_86, eX4_cost_89, eX4_cost_92, eX4_cost_94, evb_some, evm_some, evc_some, evc_none, gd, if_true, if_false, eq_self, and_self, and_true, true_and, ne_eq, not_false_eq_true, or_true, true_or, cf0_0, cf0_1, cf0_2, cf0_3, cf0_4, cf0_5, cf0_6, cf23_0, cf23_1, cf23_2, cf23_3, cf48_0, cf48_1, cf50_0, cf50_1, cg0, cg23, cg48, cg50, cg1, cg12, cg24, cg35, Int.reduceEq, Int.reduceLT, Int.reduceLE, ↓reduceIte, n_hasParcelY c1, c2, c3, n_stateOf hL c1.2 h8, c4, T4_no3 hg]) (fun M => by simp only [eX5_cost_0, eX5_cost_1, eX5_cost_2, eX5_cost_5, eX5_cost_8, eX5_cost_9, eX5_cost_12, eX5_cost_13, eX5_cost_14, eX5_cost_16, eX5_cost_19, eX5_cost_20, eX5_cost_21, eX5_cost_24, eX5_cost_25, eX5_cost_28, eX5_cost_29, eX5_cost_30, eX5_cost_33, eX5_cost_35, eX5_cost_36, eX5_cost_37, eX5_cost_40, eX5_cost_41, eX5_cost_42, eX5_cost_45, evb_some, evm_some, evc_some, evc_none, gd, if_true, if_false, eq_self, and_self, and_true, true_and, ne_eq, not_false_eq_true, or_true, true_or, mg, mf0, mf1, mf2, mf3, mf4, mf5, mf6, mf7, mf8, mf9, mf10, mf11, mf12, mf13, mf14, mf15, mf16, mf17, mf18, mf19, mf20, mf21, mf22, mf23, mf24, mf25, mf26, mf27, ma54, ma55, ma56, ma57, ma58, ma59, ma60, ma61, ma62, ma63, ma64, ma65, ma66, ma67, ma68, ma69, ma70, ma71, Int.reduceEq, Int.reduceLT, Int.reduceLE, ↓reduceIte, T5_isParcelY c1, T5_bound, c2, c3, l8, i8, c4, T5_no3 hm])
  obtain ⟨e, rfl⟩ := n2i (show 0 ≤ k by omega)
  obtain ⟨P, hP⟩ := n2i hW.2.1.1
  obtain ⟨q, hq, hq2, hq6⟩ := to_n hW c1.2
  have hqP : q < P := by omega
  refine Bth_y (r := vI (coL n i q P e 4 0)) h (fun M => ?_) (fun M => ?_)
  · obtain ⟨d', h1, h2⟩ := T4_costLoop (X := X) (mem := M) (t := t) (la := la) (g := g) (k := e) hW hP hqP c1.2 hq (by omega) 4 0 mi h.2.2.1 (by omega)
    exact ⟨d', la, h1, h.2.2.2.1, Eq.trans (by simp only [eX4_cost_0, eX4_cost_1, eX4_cost_4, eX4_cost_5, eX4_cost_8, eX4_cost_11, eX4_cost_12, eX4_cost_13, eX4_cost_16, eX4_cost_17, eX4_cost_18, eX4_cost_19, eX4_cost_22, eX4_cost_23, eX4_cost_25, eX4_cost_28, eX4_cost_29, eX4_cost_30, eX4_cost_32, eX4_cost_35, eX4_cost_36, eX4_cost_38, eX4_cost_41, eX4_cost_42, eX4_cost_43, eX4_cost_46, eX4_cost_47, eX4_cost_50, eX4_cost_53, eX4_cost_54, eX4_cost_56, eX4_cost_59, eX4_cost_60, eX4_cost_61, evb_some, evm_some, evc_some, evc_none, gd, if_true, if_false, eq_self, and_self, and_true, true_and, ne_eq, not_false_eq_true, or_true, true_or, cf0_0, cf0_1, cf0_2, cf0_3, cf0_4, cf0_5, cf0_6, cf23_0, cf23_1, cf23_2, cf23_3, cf48_0, cf48_1, cf50_0, cf50_1, cg0, cg23, cg48, cg50, cg1, cg12, cg24, cg35, Int.reduceEq, Int.reduceLT, Int.reduceLE, ↓reduceIte, n_hasParcelY c1, c2, c3, n_stateOf hL c1.2 h8, c4]; rfl) h2⟩
  · obtain ⟨g', h1, h2⟩ := T5_costLoop (X := X) (mem := M) (k := e) hW hP hqP c1.2 hq (by omega) 343 0 1000 gm vS hkk (Nat.le_refl _) (by omega)
    rw [← cost_eq (by omega) (by omega)] at h2
    exact ⟨g', h1, Eq.trans (by simp only [eX5_cost_0, eX5_cost_1, eX5_cost_2, eX5_cost_5, eX5_cost_8, eX5_cost_9, eX5_cost_12, eX5_cost_13, eX5_cost_14, eX5_cost_16, eX5_cost_19, eX5_cost_20, eX5_cost_21, eX5_cost_24, eX5_cost_25, eX5_cost_28, eX5_cost_29, eX5_cost_30, eX5_cost_33, eX5_cost_35, eX5_cost_36, eX5_cost_37, eX5_cost_40, eX5_cost_41, eX5_cost_42, eX5_cost_45, eX5_cost_46, eX5_cost_49, eX5_cost_51, eX5_cost_52, evb_some, evm_some, evc_some, evc_none, gd, if_true, if_false, eq_self, and_self, and_true, true_and, ne_eq, not_false_eq_true, or_true, true_or, mg, mf0, mf1, mf2, mf3, mf4, mf5, mf6, mf7, mf8, mf9, mf10, mf11, mf12, mf13, mf14, mf15, mf16, mf17, mf18, mf19, mf20, mf21, mf22, mf23, mf24, mf25, mf26, mf27, ma54, ma55, ma56, ma57, ma58, ma59, ma60, ma61, ma62, ma63, ma64, ma65, ma66, ma67, ma68, ma69, ma70, ma71, Int.reduceEq, Int.reduceLT, Int.reduceLE, ↓reduceIte, T5_isParcelY c1, T5_bound, c2, c3, l8, i8, c4]; rfl) h2⟩
end CO
