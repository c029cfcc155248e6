/-! FIRST, both ways -/
section FI
variable {X : List Int} {mem : AM} {n t mi la g gm d : ST}
theorem bro_all (d : ST) : ∀ (m k s : Nat), itr (brF d) m k s ≤ s + m ∧ (itr (brF d) m k s = s + m ↔ ∀ c, k ≤ c → c < k + m → (d.2 8).getD c 0 = 2)
  | 0, k, s => ⟨Nat.le_refl _, fun _ c h1 h2 => by omega, fun _ => rfl⟩
  | m + 1, k, s => by
    show itr (brF d) m (k + 1) (brF d k s) ≤ s + (m + 1) ∧ (itr (brF d) m (k + 1) (brF d k s) = s + (m + 1) ↔ _)
    unfold brF
    by_cases q : (d.2 8).getD k 0 = 2
    · rw [if_pos q]
      have h := bro_all d m (k + 1) (s + 1)
      unfold brF at h
      refine ⟨by omega, ?_⟩
      rw [show s + (m + 1) = s + 1 + m by omega, h.2]
      refine ⟨fun z c h1 h2 => ?_, fun z c h1 h2 => z c (by omega) (by omega)⟩
      by_cases e : c = k
      · rw [e]; exact q
      · exact z c (by omega) (by omega)
    · rw [if_neg q]
      have h := bro_all d m (k + 1) s
      unfold brF at h
      exact ⟨by omega, fun z => by omega, fun z => absurd (z k (by omega) (by omega)) q⟩
theorem bro_P (h : DW d) : ((bro d : Nat) : Int) = d.1 1 ↔ ∀ c : Nat, c < (d.1 1).toNat → (d.2 8).getD c 0 = 2 := by
  have h1 := bro_all d (d.1 1).toNat 0 0
  have h2 := h.2.2.1.1
  unfold bro
  refine ⟨fun z c hc => h1.2.1 (by omega) c (by omega) (by omega), fun z => ?_⟩
  have h3 := h1.2.2 (fun c _ hc => z c (by omega))
  omega
theorem fnL_spec (d e : ST) : ∀ (m c : Nat), match fnL d e m c with
    | none => ∀ c', c ≤ c' → c' < c + m → (d.2 8).getD c' 0 = 2 ∨ (e.2 8).getD c' 0 ≠ 2
    | some x => c ≤ x ∧ x < c + m ∧ (d.2 8).getD x 0 ≠ 2 ∧ (e.2 8).getD x 0 = 2 ∧ ∀ c', c ≤ c' → c' < x → (d.2 8).getD c' 0 = 2 ∨ (e.2 8).getD c' 0 ≠ 2
  | 0, c => fun c' h1 h2 => by omega
  | m + 1, c => by
    have ih := fnL_spec d e m (c + 1)
    unfold fnL
    by_cases q : (d.2 8).getD c 0 = 2
    · rw [if_pos q]
      cases hf : fnL d e m (c + 1) with
      | none =>
        rw [hf] at ih
        intro c' h1 h2
        by_cases e1 : c' = c
        · rw [e1]; exact Or.inl q
        · exact ih c' (by omega) (by omega)
      | some x =>
        rw [hf] at ih
        refine ⟨by omega, by omega, ih.2.2.1, ih.2.2.2.1, fun c' h1 h2 => ?_⟩
        by_cases e1 : c' = c
        · rw [e1]; exact Or.inl q
        · exact ih.2.2.2.2 c' (by omega) h2
    · rw [if_neg q]
      by_cases q2 : (e.2 8).getD c 0 = 2
      · rw [if_pos q2]
        exact ⟨by omega, by omega, q, q2, fun c' h1 h2 => by omega⟩
      · rw [if_neg q2]
        cases hf : fnL d e m (c + 1) with
        | none =>
          rw [hf] at ih
          intro c' h1 h2
          by_cases e1 : c' = c
          · rw [e1]; exact Or.inr q2
          · exact ih c' (by omega) (by omega)
        | some x =>
          rw [hf] at ih
          refine ⟨by omega, by omega, ih.2.2.1, ih.2.2.2.1, fun c' h1 h2 => ?_⟩
          by_cases e1 : c' = c
          · rw [e1]; exact Or.inr q2
          · exact ih.2.2.2.2 c' (by omega) h2
/-- b is the first of the earliest -/
def isFst (d : ST) (C : Nat) (r : Int) : Prop := (r = -9 ∧ ∀ c, c < C → whS d c = 0 ∨ whS d c = 100) ∨ ∃ b, b < C ∧ r = (b : Int) ∧ 0 < whS d b ∧ whS d b < 100 ∧ ∀ c, c < C → (whS d c = 0 ∨ whS d b ≤ whS d c) ∧ (c < b → whS d c = 0 ∨ whS d b < whS d c)
theorem isFst_u {C : Nat} {r r' : Int} (h : isFst d C r) (h' : isFst d C r') : r = r' := by
  rcases h with ⟨h1, h2⟩ | ⟨b, b1, b2, b3, b4, b5⟩
  · rcases h' with ⟨h3, h4⟩ | ⟨b, b1, b2, b3, b4, b5⟩
    · rw [h1, h3]
    · have := h2 b b1
      omega
  · rcases h' with ⟨h3, h4⟩ | ⟨e, e1, e2, e3, e4, e5⟩
    · have := h4 b b1
      omega
    · have z1 := b5 e e1
      have z2 := e5 b b1
      have : b = e := by omega
      omega
theorem fb_spec (h : DW d) : ∀ (m k : Nat), k + m = 99 → (∀ c, c < (d.1 1).toNat → whS d c = 0 ∨ k < whS d c) → isFst d (d.1 1).toNat (fbL d m (pdays k d))
  | 0, k, hk, hw => Or.inl ⟨rfl, fun c hc => by have := hw c hc; have := whS_le d c; omega⟩
  | m + 1, k, hk, hw => by
    have hf := fnL_spec d (pday false (pdays k d)) (d.1 1).toNat 0
    have s0 : ∀ c, (d.2 8).getD c 0 = 2 ↔ whS d c ≤ 0 := fun c => st_wh d c (j := 0) (by omega)
    have s1 : ∀ c, ((pday false (pdays k d)).2 8).getD c 0 = 2 ↔ whS d c ≤ k + 1 := fun c => by
      rw [← pdays_s2]
      exact st_wh d c (by omega)
    unfold fbL
    cases hq : fnL d (pday false (pdays k d)) (d.1 1).toNat 0 with
    | none =>
      rw [hq] at hf
      dsimp only
      rw [← pdays_s2]
      refine fb_spec h m (k + 1) (by omega) fun c hc => ?_
      have h1 := hf c (by omega) (by omega)
      rw [s0, Ne, s1] at h1
      omega
    | some x =>
      rw [hq] at hf
      obtain ⟨f1, f2, f3, f4, f5⟩ := hf
      rw [Ne, s0] at f3
      rw [s1] at f4
      dsimp only
      have h1 := hw x (by omega)
      refine Or.inr ⟨x, by omega, rfl, by omega, by omega, fun c hc => ⟨?_, fun hcx => ?_⟩⟩
      · have := hw c hc
        omega
      · have h2 := f5 c (by omega) hcx
        rw [s0, Ne, s1] at h2
        omega
theorem lat_0 (d : ST) (c : Nat) : lat d c = 0 ↔ whS d c = 0 := by unfold lat; split <;> omega
theorem rf_spec (d : ST) (P : Nat) : ∀ (C : Nat), C ≤ P → (isFst d C (itr (rfF d) C 0 (-9, 1000, 0)).1 ∧ (((itr (rfF d) C 0 (-9, 1000, 0)).1 = -9 ∧ (itr (rfF d) C 0 (-9, 1000, 0)).2.1 = 1000) ∨ (0 ≤ (itr (rfF d) C 0 (-9, 1000, 0)).1 ∧ (itr (rfF d) C 0 (-9, 1000, 0)).2.1 = lat d (itr (rfF d) C 0 (-9, 1000, 0)).1.toNat)) ∧ (∀ c, c < C → lat d c ≤ (itr (rfF d) C 0 (-9, 1000, 0)).2.2) ∧ ((itr (rfF d) C 0 (-9, 1000, 0)).2.2 = 0 ∨ ∃ c, c < C ∧ (itr (rfF d) C 0 (-9, 1000, 0)).2.2 = lat d c))
  | 0, _ => ⟨Or.inl ⟨rfl, fun c hc => by omega⟩, Or.inl ⟨rfl, rfl⟩, fun c hc => by omega, Or.inl rfl⟩
  | C + 1, hC => by
    have ih := rf_spec d P C (by omega)
    rw [itr_succ C 0, Nat.zero_add]
    generalize itr (rfF d) C 0 (-9, 1000, 0) = s at ih ⊢
    obtain ⟨h1, h2, h3, h4⟩ := ih
    have hw := whS_le d C
    unfold rfF
    dsimp only
    refine ⟨?_, ?_, ?_, ?_⟩
    · clear h3 h4
      by_cases q : lat d C = 0
      · rw [if_pos q]
        rw [lat_0] at q
        rcases h1 with ⟨g1, g2⟩ | ⟨b, b1, b2, b3, b4, b5⟩
        · refine Or.inl ⟨g1, fun c hc => ?_⟩
          by_cases e : c = C
          · rw [e]; exact Or.inl q
          · exact g2 c (by omega)
        · refine Or.inr ⟨b, by omega, b2, b3, b4, fun c hc => ?_⟩
          by_cases e : c = C
          · rw [e]; exact ⟨Or.inl q, fun _ => Or.inl q⟩
          · exact b5 c (by omega)
      · rw [if_neg q]
        have q0 := q
        rw [lat_0] at q0
        by_cases q2 : lat d C < s.2.1
        · rw [if_pos q2]
          have l0 : lat d C = ((whS d C : Nat) : Int) ∧ whS d C < 100 := by
            unfold lat at q2 ⊢
            by_cases e : whS d C = 100
            · rw [if_pos e] at q2
              rcases h1 with ⟨g1, g2⟩ | ⟨b, b1, b2, b3, b4, b5⟩
              · omega
              · have z : s.2.1 = lat d s.1.toNat := by omega
                rw [b2, Int.toNat_natCast] at z
                unfold lat at z
                rw [if_neg (by omega)] at z
                omega
            · rw [if_neg e]
              exact ⟨rfl, by omega⟩
          refine Or.inr ⟨C, by omega, rfl, by omega, l0.2, fun c hc => ?_⟩
          by_cases e : c = C
          · rw [e]; exact ⟨Or.inr (Nat.le_refl _), fun z => absurd z (by omega)⟩
          · rcases h1 with ⟨g1, g2⟩ | ⟨b, b1, b2, b3, b4, b5⟩
            · have := g2 c (by omega)
              exact ⟨by omega, fun _ => by omega⟩
            · have z : s.2.1 = lat d s.1.toNat := by omega
              rw [b2, Int.toNat_natCast] at z
              unfold lat at z
              rw [if_neg (by omega)] at z
              have := b5 c (by omega)
              exact ⟨by omega, fun _ => by omega⟩
        · rw [if_neg q2]
          rcases h1 with ⟨g1, g2⟩ | ⟨b, b1, b2, b3, b4, b5⟩
          · refine Or.inl ⟨g1, fun c hc => ?_⟩
            by_cases e : c = C
            · rw [e]
              unfold lat at q2
              split at q2
              · omega
              · omega
            · exact g2 c (by omega)
          · refine Or.inr ⟨b, by omega, b2, b3, b4, fun c hc => ?_⟩
            by_cases e : c = C
            · have z : s.2.1 = lat d s.1.toNat := by omega
              rw [b2, Int.toNat_natCast] at z
              unfold lat at z q2
              rw [if_neg (by omega)] at z
              rw [e]
              split at q2
              · exact ⟨by omega, fun _ => by omega⟩
              · exact ⟨by omega, fun _ => by omega⟩
            · exact b5 c (by omega)
    · clear h3 h4
      by_cases q : lat d C = 0
      · rw [if_pos q, if_pos q]
        exact h2
      · rw [if_neg q, if_neg q]
        by_cases q2 : lat d C < s.2.1
        · rw [if_pos q2, if_pos q2]
          exact Or.inr ⟨by omega, by rw [Int.toNat_natCast]⟩
        · rw [if_neg q2, if_neg q2]
          exact h2
    · intro c hc
      clear h4
      by_cases e : c = C
      · rw [e]; split <;> omega
      · have := h3 c (by omega)
        split <;> omega
    · split
      · exact Or.inr ⟨C, by omega, rfl⟩
      · rcases h4 with h4 | ⟨c, c1, c2⟩
        · exact Or.inl h4
        · exact Or.inr ⟨c, by omega, c2⟩
theorem ta_spec (h : DW d) : ∀ (m k : Nat), k + m = 100 → ((taL m k (pdays k d) = 100 ∧ ∀ j, k ≤ j → j < 100 → ∃ c, c < (d.1 1).toNat ∧ j < whS d c) ∨ (taL m k (pdays k d) < 100 ∧ k ≤ taL m k (pdays k d) ∧ (∀ c, c < (d.1 1).toNat → whS d c ≤ taL m k (pdays k d)) ∧ ∀ j, k ≤ j → j < taL m k (pdays k d) → ∃ c, c < (d.1 1).toNat ∧ j < whS d c))
  | 0, k, hk => Or.inl ⟨rfl, fun j h1 h2 => by omega⟩
  | m + 1, k, hk => by
    have ih := ta_spec h m (k + 1) (by omega)
    rw [pdays_s2] at ih
    have hp := pdays_ok h k
    have hb := bro_P hp.1
    rw [hp.2.2] at hb
    have hs : ∀ c, ((pdays k d).2 8).getD c 0 = 2 ↔ whS d c ≤ k := fun c => st_wh d c (by omega)
    unfold taL
    rw [hp.2.2]
    by_cases q : ((bro (pdays k d) : Nat) : Int) = d.1 1
    · rw [if_pos q]
      exact Or.inr ⟨by omega, by omega, fun c hc => (hs c).1 (hb.1 q c hc), fun j h1 h2 => by omega⟩
    · rw [if_neg q]
      have hq : ∃ c, c < (d.1 1).toNat ∧ k < whS d c := by
        refine Classical.byContradiction fun z => q (hb.2 fun c hc => (hs c).2 (Classical.byContradiction fun z2 => z ⟨c, hc, by omega⟩))
      rcases ih with ⟨i1, i2⟩ | ⟨i1, i2, i3, i4⟩
      · refine Or.inl ⟨i1, fun j h1 h2 => ?_⟩
        by_cases e : j = k
        · rw [e]; exact hq
        · exact i2 j (by omega) h2
      · refine Or.inr ⟨i1, by omega, i3, fun j h1 h2 => ?_⟩
        by_cases e : j = k
        · rw [e]; exact hq
        · exact i4 j (by omega) h2
theorem first_all (h : DW d) : (if taL 100 0 d = 100 then -9 else ((taL 100 0 d : Nat) : Int)) = rfV 2 (rfS d) := by
  have h1 := ta_spec h 100 0 (by omega)
  rw [show pdays 0 d = d from rfl] at h1
  obtain ⟨-, -, r3, r4⟩ := rf_spec d (d.1 1).toNat (d.1 1).toNat (Nat.le_refl _)
  unfold rfV rfS
  rw [if_neg (show ¬ (2 : Int) = 0 by decide), if_neg (show ¬ (2 : Int) = 1 by decide)]
  generalize (itr (rfF d) (d.1 1).toNat 0 (-9, 1000, 0)).2.2 = y at r3 r4 ⊢
  rcases h1 with ⟨a1, a2⟩ | ⟨a1, a2, a3, a4⟩
  · rw [if_pos a1]
    obtain ⟨c, c1, c2⟩ := a2 99 (by omega) (by omega)
    have hl : lat d c = 1000 := by
      have := whS_le d c
      unfold lat
      rw [if_pos (by omega)]
    have h3 := r3 c c1
    have h4 : y ≤ 1000 := by
      rcases r4 with r4 | ⟨e, e1, e2⟩
      · omega
      · rw [e2]
        have := whS_le d e
        unfold lat
        split <;> omega
    rw [if_pos (by omega)]
  · rw [if_neg (by omega)]
    have hle : y ≤ ((taL 100 0 d : Nat) : Int) := by
      rcases r4 with r4 | ⟨e, e1, e2⟩
      · omega
      · rw [e2]
        have := a3 e e1
        unfold lat
        rw [if_neg (by omega)]
        omega
    rw [if_neg (by omega)]
    by_cases z : taL 100 0 d = 0
    · rw [z] at hle ⊢
      rcases r4 with r4 | ⟨e, e1, e2⟩
      · rw [r4]; rfl
      · have := a3 e e1
        unfold lat at e2
        rw [if_neg (by omega)] at e2
        omega
    · obtain ⟨c, c1, c2⟩ := a4 (taL 100 0 d - 1) (by omega) (by omega)
      have h3 := r3 c c1
      have := a3 c c1
      unfold lat at h3
      rw [if_neg (by omega)] at h3
      omega
theorem first_0 (h : DW d) : fbL d 99 d = (rfS d).1 := by
  have h1 := fb_spec h 99 0 (by omega) (fun c hc => by omega)
  rw [show pdays 0 d = d from rfl] at h1
  exact isFst_u h1 (rf_spec d (d.1 1).toNat (d.1 1).toNat (Nat.le_refl _)).1
theorem B_first (h : Rla n t mi la g gm) (w : Int) : Bth X m_X4_first [vI w, vS] m_X5_first [vI w, vS, vS, vS, vS, vS] mem n t mi la g gm := by
  have hW := h.1; have hL := hW.1; have h6 := hW.2.1.2; have h8 := hW.2.2.1.2; have hg := Rla_g h; have hm := Rla_m h; obtain ⟨l1, l2, l3, l4, l5, l6, l7, l8, l9, l10⟩ := id hL
  have hk := Rla_k h
  by_cases c1 : w < 0
  · exact Bth_no2 h (fun M => by simp only [eX4_first_0, eX4_first_1, eX4_first_4, eX4_first_5, eX4_first_6, eX4_first_9, eX4_first_10, eX4_first_12, eX4_first_15, eX4_first_16, eX4_first_17, eX4_first_18, eX4_first_21, eX4_first_22, eX4_first_25, eX4_first_26, eX4_first_29, eX4_first_32, eX4_first_35, eX4_first_36, eX4_first_37, eX4_first_40, eX4_first_41, eX4_first_44, eX4_first_47, eX4_first_48, eX4_first_49, eX4_first_52, eX4_first_53, eX4_first_55, eX4_first_58, eX4_first_59, eX4_first_60, eX4_first_61, eX4_first_64, eX4_first_65, eX4_first_68, eX4_first_69, eX4_first_72, eX4_first_73, eX4_first_75, eX4_first_78, eX4_first_81, evb_some, evm_some, evc_some, evc_none, gd, if_true, if_false, eq_self, and_self, and_true, true_and, ne_eq, not_false_eq_true, or_true, true_or, cf0_0, cf0_1, cf0_2, cf0_3, cf0_4, cf0_5, cf0_6, cf23_0, cf23_1, cf23_2, cf23_3, cf48_0, cf48_1, cf50_0, cf50_1, cg0, cg23, cg48, cg50, cg1, cg12, cg24, cg35, Int.reduceEq, Int.reduceLT, Int.reduceLE, ↓reduceIte, T4_no2 hg, c1]) (fun M => by simp only [eX5_first_0, eX5_first_1, eX5_first_2, eX5_first_3, eX5_first_6, eX5_first_9, eX5_first_10, eX5_first_12, eX5_first_15, evb_some, evm_some, evc_some, evc_none, gd, if_true, if_false, eq_self, and_self, and_true, true_and, ne_eq, not_false_eq_true, or_true, true_or, mg, mf0, mf1, mf2, mf3, mf4, mf5, mf6, mf7, mf8, mf9, mf10, mf11, mf12, mf13, mf14, mf15, mf16, mf17, mf18, mf19, mf20, mf21, mf22, mf23, mf24, mf25, mf26, mf27, ma54, ma55, ma56, ma57, ma58, ma59, ma60, ma61, ma62, ma63, ma64, ma65, ma66, ma67, ma68, ma69, ma70, ma71, Int.reduceEq, Int.reduceLT, Int.reduceLE, ↓reduceIte, T5_isIn, show ¬ (0 ≤ w ∧ w ≤ 2) by omega, T5_no2 hm])
  by_cases c2 : 2 < w
  · exact Bth_no2 h (fun M => by simp only [eX4_first_0, eX4_first_1, eX4_first_4, eX4_first_5, eX4_first_6, eX4_first_9, eX4_first_10, eX4_first_12, eX4_first_15, eX4_first_16, eX4_first_17, eX4_first_18, eX4_first_21, eX4_first_22, eX4_first_25, eX4_first_26, eX4_first_29, eX4_first_32, eX4_first_35, eX4_first_36, eX4_first_37, eX4_first_40, eX4_first_41, eX4_first_44, eX4_first_47, eX4_first_48, eX4_first_49, eX4_first_52, eX4_first_53, eX4_first_55, eX4_first_58, eX4_first_59, eX4_first_60, eX4_first_61, eX4_first_64, eX4_first_65, eX4_first_68, eX4_first_69, eX4_first_72, eX4_first_73, eX4_first_75, eX4_first_78, eX4_first_81, evb_some, evm_some, evc_some, evc_none, gd, if_true, if_false, eq_self, and_self, and_true, true_and, ne_eq, not_false_eq_true, or_true, true_or, cf0_0, cf0_1, cf0_2, cf0_3, cf0_4, cf0_5, cf0_6, cf23_0, cf23_1, cf23_2, cf23_3, cf48_0, cf48_1, cf50_0, cf50_1, cg0, cg23, cg48, cg50, cg1, cg12, cg24, cg35, Int.reduceEq, Int.reduceLT, Int.reduceLE, ↓reduceIte, T4_no2 hg, c1, c2]) (fun M => by simp only [eX5_first_0, eX5_first_1, eX5_first_2, eX5_first_3, eX5_first_6, eX5_first_9, eX5_first_10, eX5_first_12, eX5_first_15, evb_some, evm_some, evc_some, evc_none, gd, if_true, if_false, eq_self, and_self, and_true, true_and, ne_eq, not_false_eq_true, or_true, true_or, mg, mf0, mf1, mf2, mf3, mf4, mf5, mf6, mf7, mf8, mf9, mf10, mf11, mf12, mf13, mf14, mf15, mf16, mf17, mf18, mf19, mf20, mf21, mf22, mf23, mf24, mf25, mf26, mf27, ma54, ma55, ma56, ma57, ma58, ma59, ma60, ma61, ma62, ma63, ma64, ma65, ma66, ma67, ma68, ma69, ma70, ma71, Int.reduceEq, Int.reduceLT, Int.reduceLE, ↓reduceIte, T5_isIn, show ¬ (0 ≤ w ∧ w ≤ 2) by omega, T5_no2 hm])
  have hrf := rf_spec n (n.1 1).toNat (n.1 1).toNat (Nat.le_refl _)
  have hr : ∀ M, ∃ gm', GQ gm gm' 103 ∧ ev X m_X5_first 0 (vR 53 :: [vI w, vS, vS, vS, vS, vS]) [] (mpt M gm n) = some (some (vI (rfV w (rfS n))), mpt M gm' n) := fun M => by
    obtain ⟨g', h1, h2⟩ := T5_first (X := X) (mem := M) hW hk (show 0 ≤ w ∧ w ≤ 2 by omega)
    exact ⟨g', GQ_le h1 (by decide), h2⟩
  have q : w = 2 ∨ w = 0 ∨ w = 1 := by omega
  refine Bth_y h (fun M => ?_) hr
  rcases q with rfl | rfl | rfl
  · obtain ⟨d', h1, h2⟩ := T3_daysTillAll (X := X) (mem := M) (t := t) (mi := mi) (la := la) (g := g) hW h.2.2.1
    refine ⟨d', la, h1.1, h.2.2.2.1, ?_⟩
    have hle : taL 100 0 n ≤ 100 := by
      have h3 := ta_spec hW 100 0 (by omega)
      rw [show pdays 0 n = n from rfl] at h3
      omega
    rw [← first_all hW]
    simp only [eX4_first_0, eX4_first_1, eX4_first_4, eX4_first_5, eX4_first_6, eX4_first_9, eX4_first_10, eX4_first_12, eX4_first_15, eX4_first_16, eX4_first_17, eX4_first_18, eX4_first_21, eX4_first_22, eX4_first_25, eX4_first_26, eX4_first_29, eX4_first_32, eX4_first_35, eX4_first_36, eX4_first_37, eX4_first_40, eX4_first_41, eX4_first_44, eX4_first_47, eX4_first_48, eX4_first_49, eX4_first_52, eX4_first_53, eX4_first_55, eX4_first_58, eX4_first_59, eX4_first_60, eX4_first_61, eX4_first_64, eX4_first_65, eX4_first_68, eX4_first_69, eX4_first_72, eX4_first_73, eX4_first_75, eX4_first_78, eX4_first_81, evb_some, evm_some, evc_some, evc_none, gd, if_true, if_false, eq_self, and_self, and_true, true_and, ne_eq, not_false_eq_true, or_true, true_or, cf0_0, cf0_1, cf0_2, cf0_3, cf0_4, cf0_5, cf0_6, cf23_0, cf23_1, cf23_2, cf23_3, cf48_0, cf48_1, cf50_0, cf50_1, cg0, cg23, cg48, cg50, cg1, cg12, cg24, cg35, Int.reduceEq, Int.reduceLT, Int.reduceLE, ↓reduceIte, h2, T4_don hle]
  · obtain ⟨d', h1, h2⟩ := T3_firstBrought (X := X) (mem := M) (t := t) (mi := mi) (la := la) (g := g) hW h.2.2.1
    refine ⟨d', la, h1.1, h.2.2.2.1, ?_⟩
    rw [first_0 hW] at h2
    simp only [eX4_first_0, eX4_first_1, eX4_first_4, eX4_first_5, eX4_first_6, eX4_first_9, eX4_first_10, eX4_first_12, eX4_first_15, eX4_first_16, eX4_first_17, eX4_first_18, eX4_first_21, eX4_first_22, eX4_first_25, eX4_first_26, eX4_first_29, eX4_first_32, eX4_first_35, eX4_first_36, eX4_first_37, eX4_first_40, eX4_first_41, eX4_first_44, eX4_first_47, eX4_first_48, eX4_first_49, eX4_first_52, eX4_first_53, eX4_first_55, eX4_first_58, eX4_first_59, eX4_first_60, eX4_first_61, eX4_first_64, eX4_first_65, eX4_first_68, eX4_first_69, eX4_first_72, eX4_first_73, eX4_first_75, eX4_first_78, eX4_first_81, evb_some, evm_some, evc_some, evc_none, gd, if_true, if_false, eq_self, and_self, and_true, true_and, ne_eq, not_false_eq_true, or_true, true_or, cf0_0, cf0_1, cf0_2, cf0_3, cf0_4, cf0_5, cf0_6, cf23_0, cf23_1, cf23_2, cf23_3, cf48_0, cf48_1, cf50_0, cf50_1, cg0, cg23, cg48, cg50, cg1, cg12, cg24, cg35, Int.reduceEq, Int.reduceLT, Int.reduceLE, ↓reduceIte, h2, rfV]
  · obtain ⟨d', h1, h2⟩ := T3_firstBrought (X := X) (mem := M) (t := t) (mi := mi) (la := la) (g := g) hW h.2.2.1
    rw [first_0 hW] at h2
    rcases hrf.1 with ⟨g1, g2⟩ | ⟨b, b1, b2, b3, b4, b5⟩
    · refine ⟨d', la, h1.1, h.2.2.2.1, ?_⟩
      have e : (rfS n).1 = -9 := g1
      simp only [eX4_first_0, eX4_first_1, eX4_first_4, eX4_first_5, eX4_first_6, eX4_first_9, eX4_first_10, eX4_first_12, eX4_first_15, eX4_first_16, eX4_first_17, eX4_first_18, eX4_first_21, eX4_first_22, eX4_first_25, eX4_first_26, eX4_first_29, eX4_first_32, eX4_first_35, eX4_first_36, eX4_first_37, eX4_first_40, eX4_first_41, eX4_first_44, eX4_first_47, eX4_first_48, eX4_first_49, eX4_first_52, eX4_first_53, eX4_first_55, eX4_first_58, eX4_first_59, eX4_first_60, eX4_first_61, eX4_first_64, eX4_first_65, eX4_first_68, eX4_first_69, eX4_first_72, eX4_first_73, eX4_first_75, eX4_first_78, eX4_first_81, evb_some, evm_some, evc_some, evc_none, gd, if_true, if_false, eq_self, and_self, and_true, true_and, ne_eq, not_false_eq_true, or_true, true_or, cf0_0, cf0_1, cf0_2, cf0_3, cf0_4, cf0_5, cf0_6, cf23_0, cf23_1, cf23_2, cf23_3, cf48_0, cf48_1, cf50_0, cf50_1, cg0, cg23, cg48, cg50, cg1, cg12, cg24, cg35, Int.reduceEq, Int.reduceLT, Int.reduceLE, ↓reduceIte, h2, rfV, e]
    · have e : (rfS n).1 = (b : Int) := b2
      have e2 : (rfS n).2.1 = ((whS n b : Nat) : Int) := by
        have z := hrf.2.1
        have z2 : (itr (rfF n) (n.1 1).toNat 0 (-9, 1000, 0)).2.1 = lat n (itr (rfF n) (n.1 1).toNat 0 (-9, 1000, 0)).1.toNat := by omega
        rw [b2, Int.toNat_natCast] at z2
        unfold lat at z2
        rw [if_neg (by omega)] at z2
        exact z2
      obtain ⟨d'', h3, h4⟩ := m_dtb99 (X := X) (mem := M) (n := n) (t := t) (la := la) (g := g) (z := vS) hW (show (b : Int) < n.1 1 by omega)
      refine ⟨d'', la, h3.1, h.2.2.2.1, ?_⟩
      simp only [eX4_first_0, eX4_first_1, eX4_first_4, eX4_first_5, eX4_first_6, eX4_first_9, eX4_first_10, eX4_first_12, eX4_first_15, eX4_first_16, eX4_first_17, eX4_first_18, eX4_first_21, eX4_first_22, eX4_first_25, eX4_first_26, eX4_first_29, eX4_first_32, eX4_first_35, eX4_first_36, eX4_first_37, eX4_first_40, eX4_first_41, eX4_first_44, eX4_first_47, eX4_first_48, eX4_first_49, eX4_first_52, eX4_first_53, eX4_first_55, eX4_first_58, eX4_first_59, eX4_first_60, eX4_first_61, eX4_first_64, eX4_first_65, eX4_first_68, eX4_first_69, eX4_first_72, eX4_first_73, eX4_first_75, eX4_first_78, eX4_first_81, evb_some, evm_some, evc_some, evc_none, gd, if_true, if_false, eq_self, and_self, and_true, true_and, ne_eq, not_false_eq_true, or_true, true_or, cf0_0, cf0_1, cf0_2, cf0_3, cf0_4, cf0_5, cf0_6, cf23_0, cf23_1, cf23_2, cf23_3, cf48_0, cf48_1, cf50_0, cf50_1, cg0, cg23, cg48, cg50, cg1, cg12, cg24, cg35, Int.reduceEq, Int.reduceLT, Int.reduceLE, ↓reduceIte, h2, rfV, e, e2, show ¬ (b : Int) = -9 by omega, show ¬ (b : Int) < 0 by omega, T3_behind0 hW h1.1, h4, T4_don (whS_le n b), show ¬ whS n b = 100 by omega]
end FI
