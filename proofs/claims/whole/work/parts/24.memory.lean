/-! THE WHOLE MEMORY: the class's cells, the reference's -/
def DAt (mem : AM) (B : Nat) (d : ST) : Prop := mem B = .inl (0, dobj B d) ∧ ∀ k, 1 ≤ k → k ≤ 10 → mem (B + k) = .inr (d.2 k)
theorem DAt_put {mem : AM} {B : Nat} {d : ST} : DAt (dput mem B d) B d := ⟨dput_o, fun k h1 h2 => dput_a h1 h2⟩
theorem DAt_ne {mem : AM} {B B2 : Nat} {d d2 : ST} (h : DAt mem B2 d2) (hd : B2 + 10 < B ∨ B + 10 < B2) : DAt (dput mem B d) B2 d2 := by
  refine ⟨?_, fun k h1 h2 => ?_⟩
  · unfold dput
    rw [if_neg (by omega), if_neg (by omega)]
    exact h.1
  · unfold dput
    rw [if_neg (by omega), if_neg (by omega)]
    exact h.2 k h1 h2
theorem dput_congr {mem : AM} {B : Nat} {d e : ST} (h1 : d.1 0 = e.1 0) (h2 : d.1 1 = e.1 1) (h3 : d.1 2 = e.1 2) (h : ∀ k, 1 ≤ k → k ≤ 10 → d.2 k = e.2 k) : dput mem B d = dput mem B e := by
  funext j
  unfold dput
  split
  · unfold dobj
    rw [h1, h2, h3]
  · split
    · rw [h _ (by omega) (by omega)]
    · rfl
theorem acpy_full {mem : AM} {s t : Nat} {f g : List Int} {n : Nat} (hs : mem s = .inr f) (ht : mem t = .inr g) (hf : f.length = n) (hg : g.length = n) : acpy mem s 0 t 0 (n : Int) = some (mset mem t (.inr f)) := by
  unfold acpy
  rw [hs, ht]
  dsimp only
  rw [if_pos ⟨by omega, by omega, by omega, by omega, by omega⟩]
  congr 4
  unfold cpy
  refine List.ext_getElem? fun j => ?_
  rw [List.getElem?_map]
  rcases Nat.lt_or_ge j n with q | q
  · rw [List.getElem?_range (by omega)]
    simp only [Option.map_some, Int.toNat_zero, Int.toNat_natCast]
    rw [if_pos (by omega), Nat.zero_add, Nat.sub_zero, List.getD_eq_getElem?_getD, List.getElem?_eq_getElem (by omega)]
    rfl
  · rw [List.getElem?_eq_none (by simp; omega), List.getElem?_eq_none (by omega)]
    rfl
section BEC
variable {X : List Int} {mem : AM} {B B2 : Nat} {d d2 : ST}
theorem T0_become (h2 : DAt mem B2 d2) (hne : B2 + 10 < B ∨ B + 10 < B2) (hL : DL d) (hL2 : DL d2) : ev X m_X0_become 0 [vR B, vR B2] [] (dput mem B d) = some (none, dput mem B d2) := by
  obtain ⟨l1, l2, l3, l4, l5, l6, l7, l8, l9, l10⟩ := hL
  obtain ⟨m1, m2, m3, m4, m5, m6, m7, m8, m9, m10⟩ := hL2
  have hA : ∀ e, DAt (dput mem B e) B2 d2 := fun e => DAt_ne h2 hne
  have f0 : ∀ e, fget (dput mem B e) B2 0 0 = some (vI (d2.1 0)) := fun e => by unfold fget; rw [(hA e).1]; rfl
  have f1 : ∀ e, fget (dput mem B e) B2 0 1 = some (vI (d2.1 1)) := fun e => by unfold fget; rw [(hA e).1]; rfl
  have f2 : ∀ e, fget (dput mem B e) B2 0 2 = some (vI (d2.1 2)) := fun e => by unfold fget; rw [(hA e).1]; rfl
  have f3 : ∀ e, fget (dput mem B e) B2 0 3 = some (vR (B2 + 1)) := fun e => by unfold fget; rw [(hA e).1]; rfl
  have f4 : ∀ e, fget (dput mem B e) B2 0 4 = some (vR (B2 + 2)) := fun e => by unfold fget; rw [(hA e).1]; rfl
  have f5 : ∀ e, fget (dput mem B e) B2 0 5 = some (vR (B2 + 3)) := fun e => by unfold fget; rw [(hA e).1]; rfl
  have f6 : ∀ e, fget (dput mem B e) B2 0 6 = some (vR (B2 + 4)) := fun e => by unfold fget; rw [(hA e).1]; rfl
  have f7 : ∀ e, fget (dput mem B e) B2 0 7 = some (vR (B2 + 5)) := fun e => by unfold fget; rw [(hA e).1]; rfl
  have f8 : ∀ e, fget (dput mem B e) B2 0 8 = some (vR (B2 + 6)) := fun e => by unfold fget; rw [(hA e).1]; rfl
  have f9 : ∀ e, fget (dput mem B e) B2 0 9 = some (vR (B2 + 7)) := fun e => by unfold fget; rw [(hA e).1]; rfl
  have f10 : ∀ e, fget (dput mem B e) B2 0 10 = some (vR (B2 + 8)) := fun e => by unfold fget; rw [(hA e).1]; rfl
  have f11 : ∀ e, fget (dput mem B e) B2 0 11 = some (vR (B2 + 9)) := fun e => by unfold fget; rw [(hA e).1]; rfl
  have f12 : ∀ e, fget (dput mem B e) B2 0 12 = some (vR (B2 + 10)) := fun e => by unfold fget; rw [(hA e).1]; rfl
  have c1 : ∀ e, (e.2 1).length = 6 → acpy (dput mem B e) (B2 + 1) 0 (B + 1) 0 6 = some (dput mem B (setL e 1 (d2.2 1))) := fun e he => (acpy_full (n := 6) ((hA e).2 1 (by decide) (by decide)) (dput_a (by decide) (by decide)) m1 he).trans (congrArg some (dput_ms (by decide) (by decide)))
  have c2 : ∀ e, (e.2 2).length = 6 → acpy (dput mem B e) (B2 + 2) 0 (B + 2) 0 6 = some (dput mem B (setL e 2 (d2.2 2))) := fun e he => (acpy_full (n := 6) ((hA e).2 2 (by decide) (by decide)) (dput_a (by decide) (by decide)) m2 he).trans (congrArg some (dput_ms (by decide) (by decide)))
  have c3 : ∀ e, (e.2 3).length = 6 → acpy (dput mem B e) (B2 + 3) 0 (B + 3) 0 6 = some (dput mem B (setL e 3 (d2.2 3))) := fun e he => (acpy_full (n := 6) ((hA e).2 3 (by decide) (by decide)) (dput_a (by decide) (by decide)) m3 he).trans (congrArg some (dput_ms (by decide) (by decide)))
  have c4 : ∀ e, (e.2 4).length = 6 → acpy (dput mem B e) (B2 + 4) 0 (B + 4) 0 6 = some (dput mem B (setL e 4 (d2.2 4))) := fun e he => (acpy_full (n := 6) ((hA e).2 4 (by decide) (by decide)) (dput_a (by decide) (by decide)) m4 he).trans (congrArg some (dput_ms (by decide) (by decide)))
  have c5 : ∀ e, (e.2 5).length = 36 → acpy (dput mem B e) (B2 + 5) 0 (B + 5) 0 36 = some (dput mem B (setL e 5 (d2.2 5))) := fun e he => (acpy_full (n := 36) ((hA e).2 5 (by decide) (by decide)) (dput_a (by decide) (by decide)) m5 he).trans (congrArg some (dput_ms (by decide) (by decide)))
  have c6 : ∀ e, (e.2 6).length = 8 → acpy (dput mem B e) (B2 + 6) 0 (B + 6) 0 8 = some (dput mem B (setL e 6 (d2.2 6))) := fun e he => (acpy_full (n := 8) ((hA e).2 6 (by decide) (by decide)) (dput_a (by decide) (by decide)) m6 he).trans (congrArg some (dput_ms (by decide) (by decide)))
  have c7 : ∀ e, (e.2 7).length = 8 → acpy (dput mem B e) (B2 + 7) 0 (B + 7) 0 8 = some (dput mem B (setL e 7 (d2.2 7))) := fun e he => (acpy_full (n := 8) ((hA e).2 7 (by decide) (by decide)) (dput_a (by decide) (by decide)) m7 he).trans (congrArg some (dput_ms (by decide) (by decide)))
  have c8 : ∀ e, (e.2 8).length = 8 → acpy (dput mem B e) (B2 + 8) 0 (B + 8) 0 8 = some (dput mem B (setL e 8 (d2.2 8))) := fun e he => (acpy_full (n := 8) ((hA e).2 8 (by decide) (by decide)) (dput_a (by decide) (by decide)) m8 he).trans (congrArg some (dput_ms (by decide) (by decide)))
  have c9 : ∀ e, (e.2 9).length = 8 → acpy (dput mem B e) (B2 + 9) 0 (B + 9) 0 8 = some (dput mem B (setL e 9 (d2.2 9))) := fun e he => (acpy_full (n := 8) ((hA e).2 9 (by decide) (by decide)) (dput_a (by decide) (by decide)) m9 he).trans (congrArg some (dput_ms (by decide) (by decide)))
  have c10 : ∀ e, (e.2 10).length = 8 → acpy (dput mem B e) (B2 + 10) 0 (B + 10) 0 8 = some (dput mem B (setL e 10 (d2.2 10))) := fun e he => (acpy_full (n := 8) ((hA e).2 10 (by decide) (by decide)) (dput_a (by decide) (by decide)) m10 he).trans (congrArg some (dput_ms (by decide) (by decide)))
  simp only [eX0_become_0, eX0_become_1, eX0_become_4, eX0_become_5, eX0_become_6, eX0_become_7, eX0_become_10, eX0_become_13, eX0_become_14, eX0_become_15, eX0_become_18, eX0_become_21, eX0_become_22, eX0_become_23, eX0_become_26, eX0_become_29, eX0_become_30, eX0_become_33, eX0_become_34, eX0_become_35, eX0_become_38, eX0_become_39, eX0_become_41, eX0_become_44, eX0_become_45, eX0_become_48, eX0_become_49, eX0_become_50, eX0_become_53, eX0_become_54, eX0_become_56, eX0_become_59, eX0_become_60, eX0_become_63, eX0_become_64, eX0_become_65, eX0_become_68, eX0_become_69, eX0_become_71, eX0_become_74, eX0_become_75, eX0_become_78, eX0_become_79, eX0_become_80, eX0_become_83, eX0_become_84, eX0_become_86, eX0_become_89, eX0_become_90, eX0_become_93, eX0_become_94, eX0_become_95, eX0_become_98, eX0_become_99, eX0_become_101, eX0_become_104, eX0_become_105, eX0_become_108, eX0_become_109, eX0_become_110, eX0_become_113, eX0_become_114, eX0_become_116, eX0_become_119, eX0_become_120, eX0_become_123, eX0_become_124, eX0_become_125, eX0_become_128, eX0_become_129, eX0_become_131, eX0_become_134, eX0_become_135, eX0_become_138, eX0_become_139, eX0_become_140, eX0_become_143, eX0_become_144, eX0_become_146, eX0_become_149, eX0_become_150, eX0_become_153, eX0_become_154, eX0_become_155, eX0_become_158, eX0_become_159, eX0_become_161, eX0_become_164, eX0_become_165, eX0_become_168, eX0_become_169, eX0_become_170, eX0_become_173, eX0_become_174, eX0_become_176, eX0_become_179, evb_some, evm_some, evc_some, evc_none, gd, if_true, if_false, eq_self, and_self, and_true, true_and, ne_eq, not_false_eq_true, or_true, true_or, fd0, fd1, fd2, fd3, fd4, fd5, fd6, fd7, fd8, fd9, fd10, fd11, fd12, fp0, fp1, fp2, setS_1, setS_2, setL_1, setL_2, Nat.reduceEqDiff, ↓reduceIte, List.length_set, f0, f1, f2, f3, f4, f5, f6, f7, f8, f9, f10, f11, f12, c1, c2, c3, c4, c5, c6, c7, c8, c9, c10, l1, l2, l3, l4, l5, l6, l7, l8, l9, l10]
  refine congrArg some (Prod.ext rfl (dput_congr rfl rfl rfl fun k h1 h2 => ?_))
  rcases (show k = 1 ∨ k = 2 ∨ k = 3 ∨ k = 4 ∨ k = 5 ∨ k = 6 ∨ k = 7 ∨ k = 8 ∨ k = 9 ∨ k = 10 by omega) with rfl | rfl | rfl | rfl | rfl | rfl | rfl | rfl | rfl | rfl <;> rfl
end BEC
/-- the class's cells -/
def cpt (mem : AM) (n t mi la g : ST) : AM := fun j =>
  if j = 0 then .inl (4, [vR 1, vR 12, vI (g.1 0), vR 23, vR 48, vR 50, vR 52])
  else if j = 23 then .inl (3, [vR 24, vR 35, vR 46, vR 47])
  else if j = 46 then .inr (g.2 3) else if j = 47 then .inr (g.2 4)
  else if j = 48 then .inl (2, [vI (g.1 1), vR 49]) else if j = 49 then .inr (g.2 1)
  else if j = 50 then .inl (1, [vI (g.1 2), vR 51]) else if j = 51 then .inr (g.2 2)
  else if j = 52 then .inr (g.2 0)
  else if j ≤ 11 then dput mem 1 n j else if j ≤ 22 then dput mem 12 t j else if j ≤ 34 then dput mem 24 mi j else if j ≤ 45 then dput mem 35 la j else mem j
section CPT
variable {mem : AM} {n t mi la g d : ST}
theorem cp1 : dput (cpt mem n t mi la g) 1 d = cpt mem d t mi la g := by
  funext j
  show (if j = 1 then _ else if 1 < j ∧ j ≤ 1 + 10 then _ else _) = _
  by_cases h1 : j = 1
  · subst h1
    rfl
  · rw [if_neg h1]
    by_cases h2 : 1 < j ∧ j ≤ 1 + 10
    · rw [if_pos h2]
      unfold cpt dput
      simp only [show ¬ j = 0 by omega, show ¬ j = 23 by omega, show ¬ j = 46 by omega, show ¬ j = 47 by omega, show ¬ j = 48 by omega, show ¬ j = 49 by omega, show ¬ j = 50 by omega, show ¬ j = 51 by omega, show ¬ j = 52 by omega, if_false]
      rw [if_pos (show j ≤ 11 by omega), if_neg h1, if_pos h2]
    · rw [if_neg h2]
      unfold cpt
      (repeat' split) <;> first | rfl | (exfalso; omega) | (unfold dput; rw [if_neg h1, if_neg h2, if_neg h1, if_neg h2])
theorem cpA1 : DAt (cpt mem n t mi la g) 1 n := by
  have h := DAt_put (mem := cpt mem n t mi la g) (B := 1) (d := n)
  rw [cp1] at h
  exact h
theorem cp12 : dput (cpt mem n t mi la g) 12 d = cpt mem n d mi la g := by
  funext j
  show (if j = 12 then _ else if 12 < j ∧ j ≤ 12 + 10 then _ else _) = _
  by_cases h1 : j = 12
  · subst h1
    rfl
  · rw [if_neg h1]
    by_cases h2 : 12 < j ∧ j ≤ 12 + 10
    · rw [if_pos h2]
      unfold cpt dput
      simp only [show ¬ j = 0 by omega, show ¬ j = 23 by omega, show ¬ j = 46 by omega, show ¬ j = 47 by omega, show ¬ j = 48 by omega, show ¬ j = 49 by omega, show ¬ j = 50 by omega, show ¬ j = 51 by omega, show ¬ j = 52 by omega, if_false, show ¬ j ≤ 11 by omega]
      rw [if_pos (show j ≤ 22 by omega), if_neg h1, if_pos h2]
    · rw [if_neg h2]
      unfold cpt
      (repeat' split) <;> first | rfl | (exfalso; omega) | (unfold dput; rw [if_neg h1, if_neg h2, if_neg h1, if_neg h2])
theorem cpA12 : DAt (cpt mem n t mi la g) 12 t := by
  have h := DAt_put (mem := cpt mem n t mi la g) (B := 12) (d := t)
  rw [cp12] at h
  exact h
theorem cp24 : dput (cpt mem n t mi la g) 24 d = cpt mem n t d la g := by
  funext j
  show (if j = 24 then _ else if 24 < j ∧ j ≤ 24 + 10 then _ else _) = _
  by_cases h1 : j = 24
  · subst h1
    rfl
  · rw [if_neg h1]
    by_cases h2 : 24 < j ∧ j ≤ 24 + 10
    · rw [if_pos h2]
      unfold cpt dput
      simp only [show ¬ j = 0 by omega, show ¬ j = 23 by omega, show ¬ j = 46 by omega, show ¬ j = 47 by omega, show ¬ j = 48 by omega, show ¬ j = 49 by omega, show ¬ j = 50 by omega, show ¬ j = 51 by omega, show ¬ j = 52 by omega, if_false, show ¬ j ≤ 11 by omega, show ¬ j ≤ 22 by omega]
      rw [if_pos (show j ≤ 34 by omega), if_neg h1, if_pos h2]
    · rw [if_neg h2]
      unfold cpt
      (repeat' split) <;> first | rfl | (exfalso; omega) | (unfold dput; rw [if_neg h1, if_neg h2, if_neg h1, if_neg h2])
theorem cpA24 : DAt (cpt mem n t mi la g) 24 mi := by
  have h := DAt_put (mem := cpt mem n t mi la g) (B := 24) (d := mi)
  rw [cp24] at h
  exact h
theorem cp35 : dput (cpt mem n t mi la g) 35 d = cpt mem n t mi d g := by
  funext j
  show (if j = 35 then _ else if 35 < j ∧ j ≤ 35 + 10 then _ else _) = _
  by_cases h1 : j = 35
  · subst h1
    rfl
  · rw [if_neg h1]
    by_cases h2 : 35 < j ∧ j ≤ 35 + 10
    · rw [if_pos h2]
      unfold cpt dput
      simp only [show ¬ j = 0 by omega, show ¬ j = 23 by omega, show ¬ j = 46 by omega, show ¬ j = 47 by omega, show ¬ j = 48 by omega, show ¬ j = 49 by omega, show ¬ j = 50 by omega, show ¬ j = 51 by omega, show ¬ j = 52 by omega, if_false, show ¬ j ≤ 11 by omega, show ¬ j ≤ 22 by omega, show ¬ j ≤ 34 by omega]
      rw [if_pos (show j ≤ 45 by omega), if_neg h1, if_pos h2]
    · rw [if_neg h2]
      unfold cpt
      (repeat' split) <;> first | rfl | (exfalso; omega) | (unfold dput; rw [if_neg h1, if_neg h2, if_neg h1, if_neg h2])
theorem cpA35 : DAt (cpt mem n t mi la g) 35 la := by
  have h := DAt_put (mem := cpt mem n t mi la g) (B := 35) (d := la)
  rw [cp35] at h
  exact h
theorem cf0_0 : fget (cpt mem n t mi la g) 0 4 0 = some (vR 1) := rfl
theorem cf0_1 : fget (cpt mem n t mi la g) 0 4 1 = some (vR 12) := rfl
theorem cf0_2 : fget (cpt mem n t mi la g) 0 4 2 = some (vI (g.1 0)) := rfl
theorem cf0_3 : fget (cpt mem n t mi la g) 0 4 3 = some (vR 23) := rfl
theorem cf0_4 : fget (cpt mem n t mi la g) 0 4 4 = some (vR 48) := rfl
theorem cf0_5 : fget (cpt mem n t mi la g) 0 4 5 = some (vR 50) := rfl
theorem cf0_6 : fget (cpt mem n t mi la g) 0 4 6 = some (vR 52) := rfl
theorem cf23_0 : fget (cpt mem n t mi la g) 23 3 0 = some (vR 24) := rfl
theorem cf23_1 : fget (cpt mem n t mi la g) 23 3 1 = some (vR 35) := rfl
theorem cf23_2 : fget (cpt mem n t mi la g) 23 3 2 = some (vR 46) := rfl
theorem cf23_3 : fget (cpt mem n t mi la g) 23 3 3 = some (vR 47) := rfl
theorem cf48_0 : fget (cpt mem n t mi la g) 48 2 0 = some (vI (g.1 1)) := rfl
theorem cf48_1 : fget (cpt mem n t mi la g) 48 2 1 = some (vR 49) := rfl
theorem cf50_0 : fget (cpt mem n t mi la g) 50 1 0 = some (vI (g.1 2)) := rfl
theorem cf50_1 : fget (cpt mem n t mi la g) 50 1 1 = some (vR 51) := rfl
theorem cg0 {α : Type} {x : Option α} : gR (cpt mem n t mi la g) 0 4 x = x := rfl
theorem cg23 {α : Type} {x : Option α} : gR (cpt mem n t mi la g) 23 3 x = x := rfl
theorem cg48 {α : Type} {x : Option α} : gR (cpt mem n t mi la g) 48 2 x = x := rfl
theorem cg50 {α : Type} {x : Option α} : gR (cpt mem n t mi la g) 50 1 x = x := rfl
theorem cg1 {α : Type} {x : Option α} : gR (cpt mem n t mi la g) 1 0 x = x := rfl
theorem cg12 {α : Type} {x : Option α} : gR (cpt mem n t mi la g) 12 0 x = x := rfl
theorem cg24 {α : Type} {x : Option α} : gR (cpt mem n t mi la g) 24 0 x = x := rfl
theorem cg35 {α : Type} {x : Option α} : gR (cpt mem n t mi la g) 35 0 x = x := rfl
theorem cw0 {x : Int} : fput (cpt mem n t mi la g) 0 4 2 (vI x) = some (cpt mem n t mi la (setS g 0 x)) := by
  show some (mset (cpt mem n t mi la g) 0 _) = _
  refine congrArg some ?_
  funext j
  unfold mset
  by_cases h : j = 0
  · subst h; rfl
  · rw [if_neg h]
    unfold cpt
    simp only [h, if_false]
    rfl
theorem cw48 {x : Int} : fput (cpt mem n t mi la g) 48 2 0 (vI x) = some (cpt mem n t mi la (setS g 1 x)) := by
  show some (mset (cpt mem n t mi la g) 48 _) = _
  refine congrArg some ?_
  funext j
  unfold mset
  by_cases h : j = 48
  · subst h; rfl
  · rw [if_neg h]
    unfold cpt
    simp only [h, if_false]
    rfl
theorem cw50 {x : Int} : fput (cpt mem n t mi la g) 50 1 0 (vI x) = some (cpt mem n t mi la (setS g 2 x)) := by
  show some (mset (cpt mem n t mi la g) 50 _) = _
  refine congrArg some ?_
  funext j
  unfold mset
  by_cases h : j = 50
  · subst h; rfl
  · rw [if_neg h]
    unfold cpt
    simp only [h, if_false]
    rfl
theorem ca46 {i : Nat} (h : i < (g.2 3).length) : aget (cpt mem n t mi la g) 46 (i : Int) = some (vI ((g.2 3).getD i 0)) := aget_n rfl h
theorem cx46 {i : Nat} {x : Int} (h : i < (g.2 3).length) : aput (cpt mem n t mi la g) 46 (i : Int) x = some (cpt mem n t mi la (setL g 3 ((g.2 3).set i x))) := by
  rw [aput_n (l := g.2 3) rfl h]
  refine congrArg some ?_
  funext j
  unfold mset
  by_cases h : j = 46
  · subst h; rfl
  · rw [if_neg h]
    unfold cpt
    simp only [h, if_false]
    rfl
theorem cl46 : alen (cpt mem n t mi la g) 46 = some (vI (w32 (g.2 3).length)) := rfl
theorem ca47 {i : Nat} (h : i < (g.2 4).length) : aget (cpt mem n t mi la g) 47 (i : Int) = some (vI ((g.2 4).getD i 0)) := aget_n rfl h
theorem cx47 {i : Nat} {x : Int} (h : i < (g.2 4).length) : aput (cpt mem n t mi la g) 47 (i : Int) x = some (cpt mem n t mi la (setL g 4 ((g.2 4).set i x))) := by
  rw [aput_n (l := g.2 4) rfl h]
  refine congrArg some ?_
  funext j
  unfold mset
  by_cases h : j = 47
  · subst h; rfl
  · rw [if_neg h]
    unfold cpt
    simp only [h, if_false]
    rfl
theorem cl47 : alen (cpt mem n t mi la g) 47 = some (vI (w32 (g.2 4).length)) := rfl
theorem ca49 {i : Nat} (h : i < (g.2 1).length) : aget (cpt mem n t mi la g) 49 (i : Int) = some (vI ((g.2 1).getD i 0)) := aget_n rfl h
theorem cx49 {i : Nat} {x : Int} (h : i < (g.2 1).length) : aput (cpt mem n t mi la g) 49 (i : Int) x = some (cpt mem n t mi la (setL g 1 ((g.2 1).set i x))) := by
  rw [aput_n (l := g.2 1) rfl h]
  refine congrArg some ?_
  funext j
  unfold mset
  by_cases h : j = 49
  · subst h; rfl
  · rw [if_neg h]
    unfold cpt
    simp only [h, if_false]
    rfl
theorem cl49 : alen (cpt mem n t mi la g) 49 = some (vI (w32 (g.2 1).length)) := rfl
theorem ca51 {i : Nat} (h : i < (g.2 2).length) : aget (cpt mem n t mi la g) 51 (i : Int) = some (vI ((g.2 2).getD i 0)) := aget_n rfl h
theorem cx51 {i : Nat} {x : Int} (h : i < (g.2 2).length) : aput (cpt mem n t mi la g) 51 (i : Int) x = some (cpt mem n t mi la (setL g 2 ((g.2 2).set i x))) := by
  rw [aput_n (l := g.2 2) rfl h]
  refine congrArg some ?_
  funext j
  unfold mset
  by_cases h : j = 51
  · subst h; rfl
  · rw [if_neg h]
    unfold cpt
    simp only [h, if_false]
    rfl
theorem cl51 : alen (cpt mem n t mi la g) 51 = some (vI (w32 (g.2 2).length)) := rfl
theorem ca52 {i : Nat} (h : i < (g.2 0).length) : aget (cpt mem n t mi la g) 52 (i : Int) = some (vI ((g.2 0).getD i 0)) := aget_n rfl h
theorem cx52 {i : Nat} {x : Int} (h : i < (g.2 0).length) : aput (cpt mem n t mi la g) 52 (i : Int) x = some (cpt mem n t mi la (setL g 0 ((g.2 0).set i x))) := by
  rw [aput_n (l := g.2 0) rfl h]
  refine congrArg some ?_
  funext j
  unfold mset
  by_cases h : j = 52
  · subst h; rfl
  · rw [if_neg h]
    unfold cpt
    simp only [h, if_false]
    rfl
theorem cl52 : alen (cpt mem n t mi la g) 52 = some (vI (w32 (g.2 0).length)) := rfl
end CPT
/-- the reference's cells -/
def mrow (g d : ST) (j : Nat) : List Int := match j with
  | 54 => g.2 0
  | 55 => d.2 1
  | 56 => d.2 2
  | 57 => d.2 3
  | 58 => d.2 4
  | 59 => d.2 5
  | 60 => d.2 6
  | 61 => d.2 7
  | 62 => d.2 8
  | 63 => d.2 10
  | 64 => d.2 9
  | 65 => g.2 1
  | 66 => g.2 2
  | 67 => g.2 3
  | 68 => g.2 4
  | 69 => g.2 5
  | 70 => g.2 6
  | 71 => g.2 7
  | _ => []
def mobj (g d : ST) : List AV := [vR 54, vR 55, vR 56, vR 57, vR 58, vR 59, vR 60, vR 61, vR 62, vR 63, vR 64, vI (d.1 0), vI (d.1 1), vI (d.1 2), vR 65, vR 66, vR 67, vR 68, vI (g.1 0), vI (g.1 1), vI (g.1 2), vR 69, vI (g.1 3), vI (g.1 4), vI (g.1 5), vR 70, vR 71, vI (g.1 6)]
def mpt (mem : AM) (g d : ST) : AM := fun j => if j = 53 then .inl (5, mobj g d) else if 54 ≤ j ∧ j ≤ 71 then .inr (mrow g d j) else mem j
section MPT
variable {mem : AM} {g d : ST}
theorem mg {α : Type} {x : Option α} : gR (mpt mem g d) 53 5 x = x := rfl
theorem mf0 : fget (mpt mem g d) 53 5 0 = some (vR 54) := rfl
theorem mf1 : fget (mpt mem g d) 53 5 1 = some (vR 55) := rfl
theorem mf2 : fget (mpt mem g d) 53 5 2 = some (vR 56) := rfl
theorem mf3 : fget (mpt mem g d) 53 5 3 = some (vR 57) := rfl
theorem mf4 : fget (mpt mem g d) 53 5 4 = some (vR 58) := rfl
theorem mf5 : fget (mpt mem g d) 53 5 5 = some (vR 59) := rfl
theorem mf6 : fget (mpt mem g d) 53 5 6 = some (vR 60) := rfl
theorem mf7 : fget (mpt mem g d) 53 5 7 = some (vR 61) := rfl
theorem mf8 : fget (mpt mem g d) 53 5 8 = some (vR 62) := rfl
theorem mf9 : fget (mpt mem g d) 53 5 9 = some (vR 63) := rfl
theorem mf10 : fget (mpt mem g d) 53 5 10 = some (vR 64) := rfl
theorem mf11 : fget (mpt mem g d) 53 5 11 = some (vI (d.1 0)) := rfl
theorem mw11 {x : Int} : fput (mpt mem g d) 53 5 11 (vI x) = some (mpt mem g (setS d 0 x)) := by
  show some (mset (mpt mem g d) 53 _) = _
  refine congrArg some ?_
  funext j
  unfold mset
  by_cases h : j = 53
  · subst h; rfl
  · rw [if_neg h]
    unfold mpt
    rw [if_neg h, if_neg h]
    rfl
theorem mf12 : fget (mpt mem g d) 53 5 12 = some (vI (d.1 1)) := rfl
theorem mw12 {x : Int} : fput (mpt mem g d) 53 5 12 (vI x) = some (mpt mem g (setS d 1 x)) := by
  show some (mset (mpt mem g d) 53 _) = _
  refine congrArg some ?_
  funext j
  unfold mset
  by_cases h : j = 53
  · subst h; rfl
  · rw [if_neg h]
    unfold mpt
    rw [if_neg h, if_neg h]
    rfl
theorem mf13 : fget (mpt mem g d) 53 5 13 = some (vI (d.1 2)) := rfl
theorem mw13 {x : Int} : fput (mpt mem g d) 53 5 13 (vI x) = some (mpt mem g (setS d 2 x)) := by
  show some (mset (mpt mem g d) 53 _) = _
  refine congrArg some ?_
  funext j
  unfold mset
  by_cases h : j = 53
  · subst h; rfl
  · rw [if_neg h]
    unfold mpt
    rw [if_neg h, if_neg h]
    rfl
theorem mf14 : fget (mpt mem g d) 53 5 14 = some (vR 65) := rfl
theorem mf15 : fget (mpt mem g d) 53 5 15 = some (vR 66) := rfl
theorem mf16 : fget (mpt mem g d) 53 5 16 = some (vR 67) := rfl
theorem mf17 : fget (mpt mem g d) 53 5 17 = some (vR 68) := rfl
theorem mf18 : fget (mpt mem g d) 53 5 18 = some (vI (g.1 0)) := rfl
theorem mw18 {x : Int} : fput (mpt mem g d) 53 5 18 (vI x) = some (mpt mem (setS g 0 x) d) := by
  show some (mset (mpt mem g d) 53 _) = _
  refine congrArg some ?_
  funext j
  unfold mset
  by_cases h : j = 53
  · subst h; rfl
  · rw [if_neg h]
    unfold mpt
    rw [if_neg h, if_neg h]
    rfl
theorem mf19 : fget (mpt mem g d) 53 5 19 = some (vI (g.1 1)) := rfl
theorem mw19 {x : Int} : fput (mpt mem g d) 53 5 19 (vI x) = some (mpt mem (setS g 1 x) d) := by
  show some (mset (mpt mem g d) 53 _) = _
  refine congrArg some ?_
  funext j
  unfold mset
  by_cases h : j = 53
  · subst h; rfl
  · rw [if_neg h]
    unfold mpt
    rw [if_neg h, if_neg h]
    rfl
theorem mf20 : fget (mpt mem g d) 53 5 20 = some (vI (g.1 2)) := rfl
theorem mw20 {x : Int} : fput (mpt mem g d) 53 5 20 (vI x) = some (mpt mem (setS g 2 x) d) := by
  show some (mset (mpt mem g d) 53 _) = _
  refine congrArg some ?_
  funext j
  unfold mset
  by_cases h : j = 53
  · subst h; rfl
  · rw [if_neg h]
    unfold mpt
    rw [if_neg h, if_neg h]
    rfl
theorem mf21 : fget (mpt mem g d) 53 5 21 = some (vR 69) := rfl
theorem mf22 : fget (mpt mem g d) 53 5 22 = some (vI (g.1 3)) := rfl
theorem mw22 {x : Int} : fput (mpt mem g d) 53 5 22 (vI x) = some (mpt mem (setS g 3 x) d) := by
  show some (mset (mpt mem g d) 53 _) = _
  refine congrArg some ?_
  funext j
  unfold mset
  by_cases h : j = 53
  · subst h; rfl
  · rw [if_neg h]
    unfold mpt
    rw [if_neg h, if_neg h]
    rfl
theorem mf23 : fget (mpt mem g d) 53 5 23 = some (vI (g.1 4)) := rfl
theorem mw23 {x : Int} : fput (mpt mem g d) 53 5 23 (vI x) = some (mpt mem (setS g 4 x) d) := by
  show some (mset (mpt mem g d) 53 _) = _
  refine congrArg some ?_
  funext j
  unfold mset
  by_cases h : j = 53
  · subst h; rfl
  · rw [if_neg h]
    unfold mpt
    rw [if_neg h, if_neg h]
    rfl
theorem mf24 : fget (mpt mem g d) 53 5 24 = some (vI (g.1 5)) := rfl
theorem mw24 {x : Int} : fput (mpt mem g d) 53 5 24 (vI x) = some (mpt mem (setS g 5 x) d) := by
  show some (mset (mpt mem g d) 53 _) = _
  refine congrArg some ?_
  funext j
  unfold mset
  by_cases h : j = 53
  · subst h; rfl
  · rw [if_neg h]
    unfold mpt
    rw [if_neg h, if_neg h]
    rfl
theorem mf25 : fget (mpt mem g d) 53 5 25 = some (vR 70) := rfl
theorem mf26 : fget (mpt mem g d) 53 5 26 = some (vR 71) := rfl
theorem mf27 : fget (mpt mem g d) 53 5 27 = some (vI (g.1 6)) := rfl
theorem mw27 {x : Int} : fput (mpt mem g d) 53 5 27 (vI x) = some (mpt mem (setS g 6 x) d) := by
  show some (mset (mpt mem g d) 53 _) = _
  refine congrArg some ?_
  funext j
  unfold mset
  by_cases h : j = 53
  · subst h; rfl
  · rw [if_neg h]
    unfold mpt
    rw [if_neg h, if_neg h]
    rfl
theorem ma54 {i : Nat} (h : i < (g.2 0).length) : aget (mpt mem g d) 54 (i : Int) = some (vI ((g.2 0).getD i 0)) := aget_n rfl h
theorem mx54 {i : Nat} {x : Int} (h : i < (g.2 0).length) : aput (mpt mem g d) 54 (i : Int) x = some (mpt mem (setL g 0 ((g.2 0).set i x)) d) := by
  rw [aput_n (l := (g.2 0)) rfl h]
  refine congrArg some ?_
  funext j
  unfold mset
  by_cases h : j = 54
  · subst h; rfl
  · rw [if_neg h]
    unfold mpt
    split
    · rfl
    · split
      · rename_i h1 h2
        unfold mrow setL
        split <;> first | rfl | omega
      · rfl
theorem ml54 : alen (mpt mem g d) 54 = some (vI (w32 (g.2 0).length)) := rfl
theorem ma55 {i : Nat} (h : i < (d.2 1).length) : aget (mpt mem g d) 55 (i : Int) = some (vI ((d.2 1).getD i 0)) := aget_n rfl h
theorem mx55 {i : Nat} {x : Int} (h : i < (d.2 1).length) : aput (mpt mem g d) 55 (i : Int) x = some (mpt mem g (setL d 1 ((d.2 1).set i x))) := by
  rw [aput_n (l := (d.2 1)) rfl h]
  refine congrArg some ?_
  funext j
  unfold mset
  by_cases h : j = 55
  · subst h; rfl
  · rw [if_neg h]
    unfold mpt
    split
    · rfl
    · split
      · rename_i h1 h2
        unfold mrow setL
        split <;> first | rfl | omega
      · rfl
theorem ml55 : alen (mpt mem g d) 55 = some (vI (w32 (d.2 1).length)) := rfl
theorem ma56 {i : Nat} (h : i < (d.2 2).length) : aget (mpt mem g d) 56 (i : Int) = some (vI ((d.2 2).getD i 0)) := aget_n rfl h
theorem mx56 {i : Nat} {x : Int} (h : i < (d.2 2).length) : aput (mpt mem g d) 56 (i : Int) x = some (mpt mem g (setL d 2 ((d.2 2).set i x))) := by
  rw [aput_n (l := (d.2 2)) rfl h]
  refine congrArg some ?_
  funext j
  unfold mset
  by_cases h : j = 56
  · subst h; rfl
  · rw [if_neg h]
    unfold mpt
    split
    · rfl
    · split
      · rename_i h1 h2
        unfold mrow setL
        split <;> first | rfl | omega
      · rfl
theorem ml56 : alen (mpt mem g d) 56 = some (vI (w32 (d.2 2).length)) := rfl
theorem ma57 {i : Nat} (h : i < (d.2 3).length) : aget (mpt mem g d) 57 (i : Int) = some (vI ((d.2 3).getD i 0)) := aget_n rfl h
theorem mx57 {i : Nat} {x : Int} (h : i < (d.2 3).length) : aput (mpt mem g d) 57 (i : Int) x = some (mpt mem g (setL d 3 ((d.2 3).set i x))) := by
  rw [aput_n (l := (d.2 3)) rfl h]
  refine congrArg some ?_
  funext j
  unfold mset
  by_cases h : j = 57
  · subst h; rfl
  · rw [if_neg h]
    unfold mpt
    split
    · rfl
    · split
      · rename_i h1 h2
        unfold mrow setL
        split <;> first | rfl | omega
      · rfl
theorem ml57 : alen (mpt mem g d) 57 = some (vI (w32 (d.2 3).length)) := rfl
theorem ma58 {i : Nat} (h : i < (d.2 4).length) : aget (mpt mem g d) 58 (i : Int) = some (vI ((d.2 4).getD i 0)) := aget_n rfl h
theorem mx58 {i : Nat} {x : Int} (h : i < (d.2 4).length) : aput (mpt mem g d) 58 (i : Int) x = some (mpt mem g (setL d 4 ((d.2 4).set i x))) := by
  rw [aput_n (l := (d.2 4)) rfl h]
  refine congrArg some ?_
  funext j
  unfold mset
  by_cases h : j = 58
  · subst h; rfl
  · rw [if_neg h]
    unfold mpt
    split
    · rfl
    · split
      · rename_i h1 h2
        unfold mrow setL
        split <;> first | rfl | omega
      · rfl
theorem ml58 : alen (mpt mem g d) 58 = some (vI (w32 (d.2 4).length)) := rfl
theorem ma59 {i : Nat} (h : i < (d.2 5).length) : aget (mpt mem g d) 59 (i : Int) = some (vI ((d.2 5).getD i 0)) := aget_n rfl h
theorem mx59 {i : Nat} {x : Int} (h : i < (d.2 5).length) : aput (mpt mem g d) 59 (i : Int) x = some (mpt mem g (setL d 5 ((d.2 5).set i x))) := by
  rw [aput_n (l := (d.2 5)) rfl h]
  refine congrArg some ?_
  funext j
  unfold mset
  by_cases h : j = 59
  · subst h; rfl
  · rw [if_neg h]
    unfold mpt
    split
    · rfl
    · split
      · rename_i h1 h2
        unfold mrow setL
        split <;> first | rfl | omega
      · rfl
theorem ml59 : alen (mpt mem g d) 59 = some (vI (w32 (d.2 5).length)) := rfl
theorem ma60 {i : Nat} (h : i < (d.2 6).length) : aget (mpt mem g d) 60 (i : Int) = some (vI ((d.2 6).getD i 0)) := aget_n rfl h
theorem mx60 {i : Nat} {x : Int} (h : i < (d.2 6).length) : aput (mpt mem g d) 60 (i : Int) x = some (mpt mem g (setL d 6 ((d.2 6).set i x))) := by
  rw [aput_n (l := (d.2 6)) rfl h]
  refine congrArg some ?_
  funext j
  unfold mset
  by_cases h : j = 60
  · subst h; rfl
  · rw [if_neg h]
    unfold mpt
    split
    · rfl
    · split
      · rename_i h1 h2
        unfold mrow setL
        split <;> first | rfl | omega
      · rfl
theorem ml60 : alen (mpt mem g d) 60 = some (vI (w32 (d.2 6).length)) := rfl
theorem ma61 {i : Nat} (h : i < (d.2 7).length) : aget (mpt mem g d) 61 (i : Int) = some (vI ((d.2 7).getD i 0)) := aget_n rfl h
theorem mx61 {i : Nat} {x : Int} (h : i < (d.2 7).length) : aput (mpt mem g d) 61 (i : Int) x = some (mpt mem g (setL d 7 ((d.2 7).set i x))) := by
  rw [aput_n (l := (d.2 7)) rfl h]
  refine congrArg some ?_
  funext j
  unfold mset
  by_cases h : j = 61
  · subst h; rfl
  · rw [if_neg h]
    unfold mpt
    split
    · rfl
    · split
      · rename_i h1 h2
        unfold mrow setL
        split <;> first | rfl | omega
      · rfl
theorem ml61 : alen (mpt mem g d) 61 = some (vI (w32 (d.2 7).length)) := rfl
theorem ma62 {i : Nat} (h : i < (d.2 8).length) : aget (mpt mem g d) 62 (i : Int) = some (vI ((d.2 8).getD i 0)) := aget_n rfl h
theorem mx62 {i : Nat} {x : Int} (h : i < (d.2 8).length) : aput (mpt mem g d) 62 (i : Int) x = some (mpt mem g (setL d 8 ((d.2 8).set i x))) := by
  rw [aput_n (l := (d.2 8)) rfl h]
  refine congrArg some ?_
  funext j
  unfold mset
  by_cases h : j = 62
  · subst h; rfl
  · rw [if_neg h]
    unfold mpt
    split
    · rfl
    · split
      · rename_i h1 h2
        unfold mrow setL
        split <;> first | rfl | omega
      · rfl
theorem ml62 : alen (mpt mem g d) 62 = some (vI (w32 (d.2 8).length)) := rfl
theorem ma63 {i : Nat} (h : i < (d.2 10).length) : aget (mpt mem g d) 63 (i : Int) = some (vI ((d.2 10).getD i 0)) := aget_n rfl h
theorem mx63 {i : Nat} {x : Int} (h : i < (d.2 10).length) : aput (mpt mem g d) 63 (i : Int) x = some (mpt mem g (setL d 10 ((d.2 10).set i x))) := by
  rw [aput_n (l := (d.2 10)) rfl h]
  refine congrArg some ?_
  funext j
  unfold mset
  by_cases h : j = 63
  · subst h; rfl
  · rw [if_neg h]
    unfold mpt
    split
    · rfl
    · split
      · rename_i h1 h2
        unfold mrow setL
        split <;> first | rfl | omega
      · rfl
theorem ml63 : alen (mpt mem g d) 63 = some (vI (w32 (d.2 10).length)) := rfl
theorem ma64 {i : Nat} (h : i < (d.2 9).length) : aget (mpt mem g d) 64 (i : Int) = some (vI ((d.2 9).getD i 0)) := aget_n rfl h
theorem mx64 {i : Nat} {x : Int} (h : i < (d.2 9).length) : aput (mpt mem g d) 64 (i : Int) x = some (mpt mem g (setL d 9 ((d.2 9).set i x))) := by
  rw [aput_n (l := (d.2 9)) rfl h]
  refine congrArg some ?_
  funext j
  unfold mset
  by_cases h : j = 64
  · subst h; rfl
  · rw [if_neg h]
    unfold mpt
    split
    · rfl
    · split
      · rename_i h1 h2
        unfold mrow setL
        split <;> first | rfl | omega
      · rfl
theorem ml64 : alen (mpt mem g d) 64 = some (vI (w32 (d.2 9).length)) := rfl
theorem ma65 {i : Nat} (h : i < (g.2 1).length) : aget (mpt mem g d) 65 (i : Int) = some (vI ((g.2 1).getD i 0)) := aget_n rfl h
theorem mx65 {i : Nat} {x : Int} (h : i < (g.2 1).length) : aput (mpt mem g d) 65 (i : Int) x = some (mpt mem (setL g 1 ((g.2 1).set i x)) d) := by
  rw [aput_n (l := (g.2 1)) rfl h]
  refine congrArg some ?_
  funext j
  unfold mset
  by_cases h : j = 65
  · subst h; rfl
  · rw [if_neg h]
    unfold mpt
    split
    · rfl
    · split
      · rename_i h1 h2
        unfold mrow setL
        split <;> first | rfl | omega
      · rfl
theorem ml65 : alen (mpt mem g d) 65 = some (vI (w32 (g.2 1).length)) := rfl
theorem ma66 {i : Nat} (h : i < (g.2 2).length) : aget (mpt mem g d) 66 (i : Int) = some (vI ((g.2 2).getD i 0)) := aget_n rfl h
theorem mx66 {i : Nat} {x : Int} (h : i < (g.2 2).length) : aput (mpt mem g d) 66 (i : Int) x = some (mpt mem (setL g 2 ((g.2 2).set i x)) d) := by
  rw [aput_n (l := (g.2 2)) rfl h]
  refine congrArg some ?_
  funext j
  unfold mset
  by_cases h : j = 66
  · subst h; rfl
  · rw [if_neg h]
    unfold mpt
    split
    · rfl
    · split
      · rename_i h1 h2
        unfold mrow setL
        split <;> first | rfl | omega
      · rfl
theorem ml66 : alen (mpt mem g d) 66 = some (vI (w32 (g.2 2).length)) := rfl
theorem ma67 {i : Nat} (h : i < (g.2 3).length) : aget (mpt mem g d) 67 (i : Int) = some (vI ((g.2 3).getD i 0)) := aget_n rfl h
theorem mx67 {i : Nat} {x : Int} (h : i < (g.2 3).length) : aput (mpt mem g d) 67 (i : Int) x = some (mpt mem (setL g 3 ((g.2 3).set i x)) d) := by
  rw [aput_n (l := (g.2 3)) rfl h]
  refine congrArg some ?_
  funext j
  unfold mset
  by_cases h : j = 67
  · subst h; rfl
  · rw [if_neg h]
    unfold mpt
    split
    · rfl
    · split
      · rename_i h1 h2
        unfold mrow setL
        split <;> first | rfl | omega
      · rfl
theorem ml67 : alen (mpt mem g d) 67 = some (vI (w32 (g.2 3).length)) := rfl
theorem ma68 {i : Nat} (h : i < (g.2 4).length) : aget (mpt mem g d) 68 (i : Int) = some (vI ((g.2 4).getD i 0)) := aget_n rfl h
theorem mx68 {i : Nat} {x : Int} (h : i < (g.2 4).length) : aput (mpt mem g d) 68 (i : Int) x = some (mpt mem (setL g 4 ((g.2 4).set i x)) d) := by
  rw [aput_n (l := (g.2 4)) rfl h]
  refine congrArg some ?_
  funext j
  unfold mset
  by_cases h : j = 68
  · subst h; rfl
  · rw [if_neg h]
    unfold mpt
    split
    · rfl
    · split
      · rename_i h1 h2
        unfold mrow setL
        split <;> first | rfl | omega
      · rfl
theorem ml68 : alen (mpt mem g d) 68 = some (vI (w32 (g.2 4).length)) := rfl
theorem ma69 {i : Nat} (h : i < (g.2 5).length) : aget (mpt mem g d) 69 (i : Int) = some (vI ((g.2 5).getD i 0)) := aget_n rfl h
theorem mx69 {i : Nat} {x : Int} (h : i < (g.2 5).length) : aput (mpt mem g d) 69 (i : Int) x = some (mpt mem (setL g 5 ((g.2 5).set i x)) d) := by
  rw [aput_n (l := (g.2 5)) rfl h]
  refine congrArg some ?_
  funext j
  unfold mset
  by_cases h : j = 69
  · subst h; rfl
  · rw [if_neg h]
    unfold mpt
    split
    · rfl
    · split
      · rename_i h1 h2
        unfold mrow setL
        split <;> first | rfl | omega
      · rfl
theorem ml69 : alen (mpt mem g d) 69 = some (vI (w32 (g.2 5).length)) := rfl
theorem ma70 {i : Nat} (h : i < (g.2 6).length) : aget (mpt mem g d) 70 (i : Int) = some (vI ((g.2 6).getD i 0)) := aget_n rfl h
theorem mx70 {i : Nat} {x : Int} (h : i < (g.2 6).length) : aput (mpt mem g d) 70 (i : Int) x = some (mpt mem (setL g 6 ((g.2 6).set i x)) d) := by
  rw [aput_n (l := (g.2 6)) rfl h]
  refine congrArg some ?_
  funext j
  unfold mset
  by_cases h : j = 70
  · subst h; rfl
  · rw [if_neg h]
    unfold mpt
    split
    · rfl
    · split
      · rename_i h1 h2
        unfold mrow setL
        split <;> first | rfl | omega
      · rfl
theorem ml70 : alen (mpt mem g d) 70 = some (vI (w32 (g.2 6).length)) := rfl
theorem ma71 {i : Nat} (h : i < (g.2 7).length) : aget (mpt mem g d) 71 (i : Int) = some (vI ((g.2 7).getD i 0)) := aget_n rfl h
theorem mx71 {i : Nat} {x : Int} (h : i < (g.2 7).length) : aput (mpt mem g d) 71 (i : Int) x = some (mpt mem (setL g 7 ((g.2 7).set i x)) d) := by
  rw [aput_n (l := (g.2 7)) rfl h]
  refine congrArg some ?_
  funext j
  unfold mset
  by_cases h : j = 71
  · subst h; rfl
  · rw [if_neg h]
    unfold mpt
    split
    · rfl
    · split
      · rename_i h1 h2
        unfold mrow setL
        split <;> first | rfl | omega
      · rfl
theorem ml71 : alen (mpt mem g d) 71 = some (vI (w32 (g.2 7).length)) := rfl
theorem cm_comm {n t mi la gc gm e : ST} : cpt (mpt mem gm e) n t mi la gc = mpt (cpt mem n t mi la gc) gm e := by
  funext j
  unfold mpt cpt dput
  by_cases h1 : j = 53
  · subst h1; rfl
  · by_cases h2 : 54 ≤ j ∧ j ≤ 71
    · simp only [h1, h2, and_self, if_true, if_false, show ¬ j = 0 by omega, show ¬ j = 23 by omega, show ¬ j = 46 by omega, show ¬ j = 47 by omega, show ¬ j = 48 by omega, show ¬ j = 49 by omega, show ¬ j = 50 by omega, show ¬ j = 51 by omega, show ¬ j = 52 by omega, show ¬ j ≤ 11 by omega, show ¬ j ≤ 22 by omega, show ¬ j ≤ 34 by omega, show ¬ j ≤ 45 by omega]
    · simp only [h1, h2, if_false]
end MPT
