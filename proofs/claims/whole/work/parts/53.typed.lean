/-! WHAT A RUN RETURNS IS OF ITS METHOD'S TYPE -/
section TY
variable {X : List Int} {mi : MI} {pc len : Nat} {al st : List AV} {mem : AM} {i : Instr}
def tyR (rt : Option FieldType) (r : Option AV) : Prop := (rt = some .int → ∃ x, r = some (vI x)) ∧ (rt = some .long → ∃ x, r = some (vL x))
theorem st_ty {r : Option AV} (h : stepJ X mi pc al st mem i len = some (.inr (.inr r))) : tyR (mRt mi) r := by
  by_cases hi : isCtl i = false
  · obtain ⟨_, hz⟩ := st_noctl hi h
    cases hz
  · cases i with
    | invokevirtual k =>
      obtain ⟨-, h⟩ := ck_inv h
      obtain ⟨_, -, h⟩ := bind_inv h
      obtain ⟨-, h⟩ := gI_inv h
      obtain ⟨-, -, -, v, rest, -, -, hq, -⟩ := callVA_inv h
      cases hq
    | invokestatic k =>
      replace h := (ck_inv h).2
      split at h
      · obtain ⟨-, h⟩ := gI_inv h
        obtain ⟨-, -, -, -, hq⟩ := callSA_inv h
        cases hq
      · split at h
        · obtain ⟨_, hz⟩ := copyA_inl h
          cases hz
        · obtain ⟨_, -, h⟩ := bind_inv h
          obtain ⟨_, hz⟩ := mathA_inl h
          cases hz
    | ireturn =>
      obtain ⟨rfl, h1⟩ := ck_inv h
      obtain ⟨x, st', rfl, h2⟩ := p1_inv h1
      obtain ⟨h3, h4⟩ := gI_inv h2
      simp only [Bool.and_eq_true, decide_eq_true_eq] at h3
      cases h4
      refine ⟨fun _ => ⟨x, rfl⟩, fun hl => ?_⟩
      rw [hl] at h3
      exact absurd h3.2 (by simp [rok])
    | lreturn =>
      obtain ⟨rfl, h1⟩ := ck_inv h
      obtain ⟨x, st', rfl, h2⟩ := pL_inv h1
      obtain ⟨h3, h4⟩ := gI_inv h2
      simp only [Bool.and_eq_true, decide_eq_true_eq] at h3
      cases h4
      refine ⟨fun hl => ?_, fun _ => ⟨x, rfl⟩⟩
      rw [hl] at h3
      exact absurd h3.2 (by simp [rokL])
    | areturn =>
      obtain ⟨rfl, h1⟩ := ck_inv h
      rcases pR_inv h1 with ⟨a, st', rfl, h2⟩ | ⟨a, st', rfl, h2⟩ <;>
      · obtain ⟨h3, h4⟩ := gI_inv h2
        simp only [Bool.and_eq_true, decide_eq_true_eq] at h3
        exact ⟨fun hl => by rw [hl] at h3; exact absurd h3.2 (by simp [rokA]), fun hl => by rw [hl] at h3; exact absurd h3.2 (by simp [rokA])⟩
    | return_ =>
      obtain ⟨rfl, h1⟩ := ck_inv h
      obtain ⟨h3, h4⟩ := gI_inv h1
      simp only [Bool.and_eq_true, decide_eq_true_eq] at h3
      exact ⟨fun hl => by rw [hl] at h3; exact absurd h3.2 (by simp [rokV]), fun hl => by rw [hl] at h3; exact absurd h3.2 (by simp [rokV])⟩
    | _ => exact absurd rfl hi
theorem run_ty : ∀ (f : Nat) {m : MI} {pc : Nat} {al st : List AV} {mem : AM} {o : Option AV × AM}, run X f m pc al st mem = some o → tyR (mRt m) o.1
  | 0, _, _, _, _, _, _, h => by cases h
  | f + 1, m, pc, al, st, mem, o, h => by
    unfold run at h
    cases hs : stepI X m pc al st mem with
    | none => rw [hs] at h; cases h
    | some x =>
      rw [hs] at h
      cases x with
      | inl x => exact run_ty f h
      | inr x =>
        cases x with
        | inr r =>
          cases h
          unfold stepI at hs
          cases hd : decode (mB m) pc with
          | error _ => rw [hd] at hs; cases hs
          | ok q =>
            rw [hd] at hs
            exact st_ty hs
        | inl x =>
          dsimp only at h
          cases hc : run X f x.1 0 (entL (mN x.1) x.2.1) [] mem with
          | none => rw [hc] at h; cases h
          | some y =>
            rw [hc] at h
            obtain ⟨v, mem'⟩ := y
            cases v with
            | none => exact run_ty f h
            | some v => exact run_ty f h
theorem ev_ty {m : MI} {pc : Nat} {o : Option AV × AM} (h : ev X m pc al st mem = some o) : tyR (mRt m) o.1 := by
  obtain ⟨f, hf⟩ := ev_iff.1 h
  exact run_ty f hf
end TY
