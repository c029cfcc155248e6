/-! THE MEMORY AT THE START -/
def zD : ST := (fun _ => 0, fun k => List.replicate (match k with | 5 => 36 | 6 => 8 | 7 => 8 | 8 => 8 | 9 => 8 | 10 => 8 | _ => 6) 0)
def zG : ST := (fun _ => 0, fun k => List.replicate (match k with | 0 => 7 | 1 => 96 | 2 => 16 | 3 => 4 | _ => 4) 0)
def zM : ST := (fun _ => 0, fun k => List.replicate (match k with | 0 => 7 | 1 => 96 | 2 => 48 | 3 => 48 | 4 => 144 | 5 => 309 | 6 => 8 | _ => 16) 0)
def m00 : AM := fun _ => .inl (999, [])
def mem0 : AM := cpt (mpt m00 zM zD) zD zD zD zD zG
theorem rz (n k : Nat) : (List.replicate n (0 : Int)).getD k 0 = 0 := by
  rw [List.getD_eq_getElem?_getD, List.getElem?_replicate]
  split <;> rfl
theorem rl (n : Nat) : (List.replicate n (0 : Int)).length = n := List.length_replicate
theorem zDL : DL zD := ⟨rl 6, rl 6, rl 6, rl 6, rl 36, rl 8, rl 8, rl 8, rl 8, rl 8⟩
theorem zGL : GL zG := ⟨rl 7, rl 96, rl 16, rl 4, rl 4⟩
theorem zML : ML zM := ⟨rl 7, rl 96, rl 48, rl 48, rl 144, rl 309, rl 8, rl 16⟩
theorem zr (k j : Nat) : (zD.2 k).getD j 0 = 0 := rz _ _
theorem zDW : DW zD := by
  refine ⟨zDL, by decide, by decide, fun i _ => ?_, fun i _ => ?_, fun i j _ _ => ?_, fun i j _ _ _ => zr _ _, fun c h => ?_⟩
  · rw [zr]; decide
  · rw [zr]; decide
  · unfold hat; rw [zr]; decide
  · exact absurd h (by show ¬ (c : Int) < 0; omega)
theorem zRla : Rla zD zD zD zD zG zM := by
  refine ⟨zDW, zDL, zDL, zDL, zGL, zML, Or.inl rfl, rfl, by decide, rfl, by decide, rfl, rfl, rfl, rfl, fun k => ?_⟩
  have h : (zG.2 1).getD k 0 = 0 := rz _ _
  rw [h]
  decide
theorem okC_z {n : Nat} (h : n < 2 ^ 31) : okC (.inr (List.replicate n 0)) := ⟨fun x hx => by rw [List.eq_of_mem_replicate hx]; rfl, by rw [rl]; exact h⟩
theorem cell_z {ad xa : Nat → Nat} {uv : Value} {cA : ClassId} {x : AC} {n : Nat} (h : x = .inr (List.replicate n 0)) : ccell ad xa uv cA x = .inl (cA, zA n) := by
  subst h
  show (Sum.inl (cA, ((List.replicate n (0 : Int)).length, Sum.inl (fun j => Int32.ofInt ((List.replicate n (0 : Int)).getD j 0)))) : va_E) = _
  rw [rl]
  have e : (fun j => Int32.ofInt ((List.replicate n (0 : Int)).getD j 0)) = fun _ => 0 := funext fun j => by rw [rz]; rfl
  rw [e]
theorem m0_0 : mem0 0 = .inl (4, [vR 1, vR 12, vI 0, vR 23, vR 48, vR 50, vR 52]) := rfl
theorem m0_1 : mem0 1 = .inl (0, [vI 0, vI 0, vI 0, vR 2, vR 3, vR 4, vR 5, vR 6, vR 7, vR 8, vR 9, vR 10, vR 11]) := rfl
theorem m0_2 : mem0 2 = .inr (List.replicate 6 0) := rfl
theorem m0_3 : mem0 3 = .inr (List.replicate 6 0) := rfl
theorem m0_4 : mem0 4 = .inr (List.replicate 6 0) := rfl
theorem m0_5 : mem0 5 = .inr (List.replicate 6 0) := rfl
theorem m0_6 : mem0 6 = .inr (List.replicate 36 0) := rfl
theorem m0_7 : mem0 7 = .inr (List.replicate 8 0) := rfl
theorem m0_8 : mem0 8 = .inr (List.replicate 8 0) := rfl
theorem m0_9 : mem0 9 = .inr (List.replicate 8 0) := rfl
theorem m0_10 : mem0 10 = .inr (List.replicate 8 0) := rfl
theorem m0_11 : mem0 11 = .inr (List.replicate 8 0) := rfl
theorem m0_12 : mem0 12 = .inl (0, [vI 0, vI 0, vI 0, vR 13, vR 14, vR 15, vR 16, vR 17, vR 18, vR 19, vR 20, vR 21, vR 22]) := rfl
theorem m0_13 : mem0 13 = .inr (List.replicate 6 0) := rfl
theorem m0_14 : mem0 14 = .inr (List.replicate 6 0) := rfl
theorem m0_15 : mem0 15 = .inr (List.replicate 6 0) := rfl
theorem m0_16 : mem0 16 = .inr (List.replicate 6 0) := rfl
theorem m0_17 : mem0 17 = .inr (List.replicate 36 0) := rfl
theorem m0_18 : mem0 18 = .inr (List.replicate 8 0) := rfl
theorem m0_19 : mem0 19 = .inr (List.replicate 8 0) := rfl
theorem m0_20 : mem0 20 = .inr (List.replicate 8 0) := rfl
theorem m0_21 : mem0 21 = .inr (List.replicate 8 0) := rfl
theorem m0_22 : mem0 22 = .inr (List.replicate 8 0) := rfl
theorem m0_23 : mem0 23 = .inl (3, [vR 24, vR 35, vR 46, vR 47]) := rfl
theorem m0_24 : mem0 24 = .inl (0, [vI 0, vI 0, vI 0, vR 25, vR 26, vR 27, vR 28, vR 29, vR 30, vR 31, vR 32, vR 33, vR 34]) := rfl
theorem m0_25 : mem0 25 = .inr (List.replicate 6 0) := rfl
theorem m0_26 : mem0 26 = .inr (List.replicate 6 0) := rfl
theorem m0_27 : mem0 27 = .inr (List.replicate 6 0) := rfl
theorem m0_28 : mem0 28 = .inr (List.replicate 6 0) := rfl
theorem m0_29 : mem0 29 = .inr (List.replicate 36 0) := rfl
theorem m0_30 : mem0 30 = .inr (List.replicate 8 0) := rfl
theorem m0_31 : mem0 31 = .inr (List.replicate 8 0) := rfl
theorem m0_32 : mem0 32 = .inr (List.replicate 8 0) := rfl
theorem m0_33 : mem0 33 = .inr (List.replicate 8 0) := rfl
theorem m0_34 : mem0 34 = .inr (List.replicate 8 0) := rfl
theorem m0_35 : mem0 35 = .inl (0, [vI 0, vI 0, vI 0, vR 36, vR 37, vR 38, vR 39, vR 40, vR 41, vR 42, vR 43, vR 44, vR 45]) := rfl
theorem m0_36 : mem0 36 = .inr (List.replicate 6 0) := rfl
theorem m0_37 : mem0 37 = .inr (List.replicate 6 0) := rfl
theorem m0_38 : mem0 38 = .inr (List.replicate 6 0) := rfl
theorem m0_39 : mem0 39 = .inr (List.replicate 6 0) := rfl
theorem m0_40 : mem0 40 = .inr (List.replicate 36 0) := rfl
theorem m0_41 : mem0 41 = .inr (List.replicate 8 0) := rfl
theorem m0_42 : mem0 42 = .inr (List.replicate 8 0) := rfl
theorem m0_43 : mem0 43 = .inr (List.replicate 8 0) := rfl
theorem m0_44 : mem0 44 = .inr (List.replicate 8 0) := rfl
theorem m0_45 : mem0 45 = .inr (List.replicate 8 0) := rfl
theorem m0_46 : mem0 46 = .inr (List.replicate 4 0) := rfl
theorem m0_47 : mem0 47 = .inr (List.replicate 4 0) := rfl
theorem m0_48 : mem0 48 = .inl (2, [vI 0, vR 49]) := rfl
theorem m0_49 : mem0 49 = .inr (List.replicate 96 0) := rfl
theorem m0_50 : mem0 50 = .inl (1, [vI 0, vR 51]) := rfl
theorem m0_51 : mem0 51 = .inr (List.replicate 16 0) := rfl
theorem m0_52 : mem0 52 = .inr (List.replicate 7 0) := rfl
theorem m0_53 : mem0 53 = .inl (5, [vR 54, vR 55, vR 56, vR 57, vR 58, vR 59, vR 60, vR 61, vR 62, vR 63, vR 64, vI 0, vI 0, vI 0, vR 65, vR 66, vR 67, vR 68, vI 0, vI 0, vI 0, vR 69, vI 0, vI 0, vI 0, vR 70, vR 71, vI 0]) := rfl
theorem m0_54 : mem0 54 = .inr (List.replicate 7 0) := rfl
theorem m0_55 : mem0 55 = .inr (List.replicate 6 0) := rfl
theorem m0_56 : mem0 56 = .inr (List.replicate 6 0) := rfl
theorem m0_57 : mem0 57 = .inr (List.replicate 6 0) := rfl
theorem m0_58 : mem0 58 = .inr (List.replicate 6 0) := rfl
theorem m0_59 : mem0 59 = .inr (List.replicate 36 0) := rfl
theorem m0_60 : mem0 60 = .inr (List.replicate 8 0) := rfl
theorem m0_61 : mem0 61 = .inr (List.replicate 8 0) := rfl
theorem m0_62 : mem0 62 = .inr (List.replicate 8 0) := rfl
theorem m0_63 : mem0 63 = .inr (List.replicate 8 0) := rfl
theorem m0_64 : mem0 64 = .inr (List.replicate 8 0) := rfl
theorem m0_65 : mem0 65 = .inr (List.replicate 96 0) := rfl
theorem m0_66 : mem0 66 = .inr (List.replicate 48 0) := rfl
theorem m0_67 : mem0 67 = .inr (List.replicate 48 0) := rfl
theorem m0_68 : mem0 68 = .inr (List.replicate 144 0) := rfl
theorem m0_69 : mem0 69 = .inr (List.replicate 309 0) := rfl
theorem m0_70 : mem0 70 = .inr (List.replicate 8 0) := rfl
theorem m0_71 : mem0 71 = .inr (List.replicate 16 0) := rfl
theorem lt72 {i : Nat} (h : i < 72) : i = 0 ∨ i = 1 ∨ i = 2 ∨ i = 3 ∨ i = 4 ∨ i = 5 ∨ i = 6 ∨ i = 7 ∨ i = 8 ∨ i = 9 ∨ i = 10 ∨ i = 11 ∨ i = 12 ∨ i = 13 ∨ i = 14 ∨ i = 15 ∨ i = 16 ∨ i = 17 ∨ i = 18 ∨ i = 19 ∨ i = 20 ∨ i = 21 ∨ i = 22 ∨ i = 23 ∨ i = 24 ∨ i = 25 ∨ i = 26 ∨ i = 27 ∨ i = 28 ∨ i = 29 ∨ i = 30 ∨ i = 31 ∨ i = 32 ∨ i = 33 ∨ i = 34 ∨ i = 35 ∨ i = 36 ∨ i = 37 ∨ i = 38 ∨ i = 39 ∨ i = 40 ∨ i = 41 ∨ i = 42 ∨ i = 43 ∨ i = 44 ∨ i = 45 ∨ i = 46 ∨ i = 47 ∨ i = 48 ∨ i = 49 ∨ i = 50 ∨ i = 51 ∨ i = 52 ∨ i = 53 ∨ i = 54 ∨ i = 55 ∨ i = 56 ∨ i = 57 ∨ i = 58 ∨ i = 59 ∨ i = 60 ∨ i = 61 ∨ i = 62 ∨ i = 63 ∨ i = 64 ∨ i = 65 ∨ i = 66 ∨ i = 67 ∨ i = 68 ∨ i = 69 ∨ i = 70 ∨ i = 71 := by omega
theorem mem0_ge {i : Nat} (h : 72 ≤ i) : mem0 i = .inl (999, []) := by
  unfold mem0 cpt mpt m00
  simp only [show ¬ i = 0 by omega, show ¬ i = 23 by omega, show ¬ i = 46 by omega, show ¬ i = 47 by omega, show ¬ i = 48 by omega, show ¬ i = 49 by omega, show ¬ i = 50 by omega, show ¬ i = 51 by omega, show ¬ i = 52 by omega, show ¬ i = 53 by omega, show ¬ i ≤ 11 by omega, show ¬ i ≤ 22 by omega, show ¬ i ≤ 34 by omega, show ¬ i ≤ 45 by omega, show ¬ (54 ≤ i ∧ i ≤ 71) by omega, if_false]
set_option maxRecDepth 100000 in
set_option maxHeartbeats 4000000 in
theorem mem0_ok : okM mem0 := by
  refine ⟨fun i => ?_, fun i h => mem0_ge h⟩
  by_cases h : i < 72
  · rcases lt72 h with rfl | rfl | rfl | rfl | rfl | rfl | rfl | rfl | rfl | rfl | rfl | rfl | rfl | rfl | rfl | rfl | rfl | rfl | rfl | rfl | rfl | rfl | rfl | rfl | rfl | rfl | rfl | rfl | rfl | rfl | rfl | rfl | rfl | rfl | rfl | rfl | rfl | rfl | rfl | rfl | rfl | rfl | rfl | rfl | rfl | rfl | rfl | rfl | rfl | rfl | rfl | rfl | rfl | rfl | rfl | rfl | rfl | rfl | rfl | rfl | rfl | rfl | rfl | rfl | rfl | rfl | rfl | rfl | rfl | rfl | rfl | rfl
    · rw [m0_0]; show ∀ v ∈ _, okV v; simp [okV]; try decide
    · rw [m0_1]; show ∀ v ∈ _, okV v; simp [okV]; try decide
    · rw [m0_2]; exact okC_z (by decide)
    · rw [m0_3]; exact okC_z (by decide)
    · rw [m0_4]; exact okC_z (by decide)
    · rw [m0_5]; exact okC_z (by decide)
    · rw [m0_6]; exact okC_z (by decide)
    · rw [m0_7]; exact okC_z (by decide)
    · rw [m0_8]; exact okC_z (by decide)
    · rw [m0_9]; exact okC_z (by decide)
    · rw [m0_10]; exact okC_z (by decide)
    · rw [m0_11]; exact okC_z (by decide)
    · rw [m0_12]; show ∀ v ∈ _, okV v; simp [okV]; try decide
    · rw [m0_13]; exact okC_z (by decide)
    · rw [m0_14]; exact okC_z (by decide)
    · rw [m0_15]; exact okC_z (by decide)
    · rw [m0_16]; exact okC_z (by decide)
    · rw [m0_17]; exact okC_z (by decide)
    · rw [m0_18]; exact okC_z (by decide)
    · rw [m0_19]; exact okC_z (by decide)
    · rw [m0_20]; exact okC_z (by decide)
    · rw [m0_21]; exact okC_z (by decide)
    · rw [m0_22]; exact okC_z (by decide)
    · rw [m0_23]; show ∀ v ∈ _, okV v; simp [okV]; try decide
    · rw [m0_24]; show ∀ v ∈ _, okV v; simp [okV]; try decide
    · rw [m0_25]; exact okC_z (by decide)
    · rw [m0_26]; exact okC_z (by decide)
    · rw [m0_27]; exact okC_z (by decide)
    · rw [m0_28]; exact okC_z (by decide)
    · rw [m0_29]; exact okC_z (by decide)
    · rw [m0_30]; exact okC_z (by decide)
    · rw [m0_31]; exact okC_z (by decide)
    · rw [m0_32]; exact okC_z (by decide)
    · rw [m0_33]; exact okC_z (by decide)
    · rw [m0_34]; exact okC_z (by decide)
    · rw [m0_35]; show ∀ v ∈ _, okV v; simp [okV]; try decide
    · rw [m0_36]; exact okC_z (by decide)
    · rw [m0_37]; exact okC_z (by decide)
    · rw [m0_38]; exact okC_z (by decide)
    · rw [m0_39]; exact okC_z (by decide)
    · rw [m0_40]; exact okC_z (by decide)
    · rw [m0_41]; exact okC_z (by decide)
    · rw [m0_42]; exact okC_z (by decide)
    · rw [m0_43]; exact okC_z (by decide)
    · rw [m0_44]; exact okC_z (by decide)
    · rw [m0_45]; exact okC_z (by decide)
    · rw [m0_46]; exact okC_z (by decide)
    · rw [m0_47]; exact okC_z (by decide)
    · rw [m0_48]; show ∀ v ∈ _, okV v; simp [okV]; try decide
    · rw [m0_49]; exact okC_z (by decide)
    · rw [m0_50]; show ∀ v ∈ _, okV v; simp [okV]; try decide
    · rw [m0_51]; exact okC_z (by decide)
    · rw [m0_52]; exact okC_z (by decide)
    · rw [m0_53]; show ∀ v ∈ _, okV v; simp [okV]; try decide
    · rw [m0_54]; exact okC_z (by decide)
    · rw [m0_55]; exact okC_z (by decide)
    · rw [m0_56]; exact okC_z (by decide)
    · rw [m0_57]; exact okC_z (by decide)
    · rw [m0_58]; exact okC_z (by decide)
    · rw [m0_59]; exact okC_z (by decide)
    · rw [m0_60]; exact okC_z (by decide)
    · rw [m0_61]; exact okC_z (by decide)
    · rw [m0_62]; exact okC_z (by decide)
    · rw [m0_63]; exact okC_z (by decide)
    · rw [m0_64]; exact okC_z (by decide)
    · rw [m0_65]; exact okC_z (by decide)
    · rw [m0_66]; exact okC_z (by decide)
    · rw [m0_67]; exact okC_z (by decide)
    · rw [m0_68]; exact okC_z (by decide)
    · rw [m0_69]; exact okC_z (by decide)
    · rw [m0_70]; exact okC_z (by decide)
    · rw [m0_71]; exact okC_z (by decide)
  · rw [mem0_ge (Nat.not_lt.mp h)]; exact fun v hv => (nomatch hv)
def adL : List Nat → Nat → Nat := fun l i => l.getD i 0
abbrev wd0 (q0 q1 q2 q3 q4 q5 q6 q7 q8 q9 q10 q11 q12 q13 q14 q15 q16 q17 q18 q19 q20 q21 q22 q23 q24 q25 q26 q27 q28 q29 q30 q31 q32 q33 q34 q35 q36 q37 q38 q39 q40 q41 q42 q43 q44 q45 q46 q47 q48 q49 q50 q51 q52 q53 q54 q55 q56 q57 q58 q59 q60 q61 q62 q63 q64 q65 q66 q67 q68 q69 q70 q71 : Nat) (cA : ClassId) : va_W := [(q0, .inr (4, [.ref q1, .ref q12, .int 0, .ref q23, .ref q48, .ref q50, .ref q52])), (q1, .inr (0, [.int 0, .int 0, .int 0, .ref q2, .ref q3, .ref q4, .ref q5, .ref q6, .ref q7, .ref q8, .ref q9, .ref q10, .ref q11])), (q2, .inl (cA, zA 6)), (q3, .inl (cA, zA 6)), (q4, .inl (cA, zA 6)), (q5, .inl (cA, zA 6)), (q6, .inl (cA, zA 36)), (q7, .inl (cA, zA 8)), (q8, .inl (cA, zA 8)), (q9, .inl (cA, zA 8)), (q10, .inl (cA, zA 8)), (q11, .inl (cA, zA 8)), (q12, .inr (0, [.int 0, .int 0, .int 0, .ref q13, .ref q14, .ref q15, .ref q16, .ref q17, .ref q18, .ref q19, .ref q20, .ref q21, .ref q22])), (q13, .inl (cA, zA 6)), (q14, .inl (cA, zA 6)), (q15, .inl (cA, zA 6)), (q16, .inl (cA, zA 6)), (q17, .inl (cA, zA 36)), (q18, .inl (cA, zA 8)), (q19, .inl (cA, zA 8)), (q20, .inl (cA, zA 8)), (q21, .inl (cA, zA 8)), (q22, .inl (cA, zA 8)), (q23, .inr (3, [.ref q24, .ref q35, .ref q46, .ref q47])), (q24, .inr (0, [.int 0, .int 0, .int 0, .ref q25, .ref q26, .ref q27, .ref q28, .ref q29, .ref q30, .ref q31, .ref q32, .ref q33, .ref q34])), (q25, .inl (cA, zA 6)), (q26, .inl (cA, zA 6)), (q27, .inl (cA, zA 6)), (q28, .inl (cA, zA 6)), (q29, .inl (cA, zA 36)), (q30, .inl (cA, zA 8)), (q31, .inl (cA, zA 8)), (q32, .inl (cA, zA 8)), (q33, .inl (cA, zA 8)), (q34, .inl (cA, zA 8)), (q35, .inr (0, [.int 0, .int 0, .int 0, .ref q36, .ref q37, .ref q38, .ref q39, .ref q40, .ref q41, .ref q42, .ref q43, .ref q44, .ref q45])), (q36, .inl (cA, zA 6)), (q37, .inl (cA, zA 6)), (q38, .inl (cA, zA 6)), (q39, .inl (cA, zA 6)), (q40, .inl (cA, zA 36)), (q41, .inl (cA, zA 8)), (q42, .inl (cA, zA 8)), (q43, .inl (cA, zA 8)), (q44, .inl (cA, zA 8)), (q45, .inl (cA, zA 8)), (q46, .inl (cA, zA 4)), (q47, .inl (cA, zA 4)), (q48, .inr (2, [.int 0, .ref q49])), (q49, .inl (cA, zA 96)), (q50, .inr (1, [.int 0, .ref q51])), (q51, .inl (cA, zA 16)), (q52, .inl (cA, zA 7)), (q53, .inr (5, [.ref q54, .ref q55, .ref q56, .ref q57, .ref q58, .ref q59, .ref q60, .ref q61, .ref q62, .ref q63, .ref q64, .int 0, .int 0, .int 0, .ref q65, .ref q66, .ref q67, .ref q68, .int 0, .int 0, .int 0, .ref q69, .int 0, .int 0, .int 0, .ref q70, .ref q71, .int 0])), (q54, .inl (cA, zA 7)), (q55, .inl (cA, zA 6)), (q56, .inl (cA, zA 6)), (q57, .inl (cA, zA 6)), (q58, .inl (cA, zA 6)), (q59, .inl (cA, zA 36)), (q60, .inl (cA, zA 8)), (q61, .inl (cA, zA 8)), (q62, .inl (cA, zA 8)), (q63, .inl (cA, zA 8)), (q64, .inl (cA, zA 8)), (q65, .inl (cA, zA 96)), (q66, .inl (cA, zA 48)), (q67, .inl (cA, zA 48)), (q68, .inl (cA, zA 144)), (q69, .inl (cA, zA 309)), (q70, .inl (cA, zA 8)), (q71, .inl (cA, zA 16))]
abbrev adS (q0 q1 q2 q3 q4 q5 q6 q7 q8 q9 q10 q11 q12 q13 q14 q15 q16 q17 q18 q19 q20 q21 q22 q23 q24 q25 q26 q27 q28 q29 q30 q31 q32 q33 q34 q35 q36 q37 q38 q39 q40 q41 q42 q43 q44 q45 q46 q47 q48 q49 q50 q51 q52 q53 q54 q55 q56 q57 q58 q59 q60 q61 q62 q63 q64 q65 q66 q67 q68 q69 q70 q71 : Nat) : Nat → Nat := adL [q0, q1, q2, q3, q4, q5, q6, q7, q8, q9, q10, q11, q12, q13, q14, q15, q16, q17, q18, q19, q20, q21, q22, q23, q24, q25, q26, q27, q28, q29, q30, q31, q32, q33, q34, q35, q36, q37, q38, q39, q40, q41, q42, q43, q44, q45, q46, q47, q48, q49, q50, q51, q52, q53, q54, q55, q56, q57, q58, q59, q60, q61, q62, q63, q64, q65, q66, q67, q68, q69, q70, q71]
set_option maxRecDepth 100000 in
set_option maxHeartbeats 4000000 in
theorem wd0_cws (q0 q1 q2 q3 q4 q5 q6 q7 q8 q9 q10 q11 q12 q13 q14 q15 q16 q17 q18 q19 q20 q21 q22 q23 q24 q25 q26 q27 q28 q29 q30 q31 q32 q33 q34 q35 q36 q37 q38 q39 q40 q41 q42 q43 q44 q45 q46 q47 q48 q49 q50 q51 q52 q53 q54 q55 q56 q57 q58 q59 q60 q61 q62 q63 q64 q65 q66 q67 q68 q69 q70 q71 : Nat) (cA : ClassId) (xa : Nat → Nat) (uv : Value) : cws (adS q0 q1 q2 q3 q4 q5 q6 q7 q8 q9 q10 q11 q12 q13 q14 q15 q16 q17 q18 q19 q20 q21 q22 q23 q24 q25 q26 q27 q28 q29 q30 q31 q32 q33 q34 q35 q36 q37 q38 q39 q40 q41 q42 q43 q44 q45 q46 q47 q48 q49 q50 q51 q52 q53 q54 q55 q56 q57 q58 q59 q60 q61 q62 q63 q64 q65 q66 q67 q68 q69 q70 q71) xa uv cA mem0 = wd0 q0 q1 q2 q3 q4 q5 q6 q7 q8 q9 q10 q11 q12 q13 q14 q15 q16 q17 q18 q19 q20 q21 q22 q23 q24 q25 q26 q27 q28 q29 q30 q31 q32 q33 q34 q35 q36 q37 q38 q39 q40 q41 q42 q43 q44 q45 q46 q47 q48 q49 q50 q51 q52 q53 q54 q55 q56 q57 q58 q59 q60 q61 q62 q63 q64 q65 q66 q67 q68 q69 q70 q71 cA := by
  have cz : ∀ {x : AC} {n : Nat}, x = .inr (List.replicate n 0) → ccell (adS q0 q1 q2 q3 q4 q5 q6 q7 q8 q9 q10 q11 q12 q13 q14 q15 q16 q17 q18 q19 q20 q21 q22 q23 q24 q25 q26 q27 q28 q29 q30 q31 q32 q33 q34 q35 q36 q37 q38 q39 q40 q41 q42 q43 q44 q45 q46 q47 q48 q49 q50 q51 q52 q53 q54 q55 q56 q57 q58 q59 q60 q61 q62 q63 q64 q65 q66 q67 q68 q69 q70 q71) xa uv cA x = .inl (cA, zA n) := fun h => cell_z h
  refine List.ext_getElem? fun i => ?_
  by_cases h : i < 72
  · rw [cws_get h]
    rcases lt72 h with rfl | rfl | rfl | rfl | rfl | rfl | rfl | rfl | rfl | rfl | rfl | rfl | rfl | rfl | rfl | rfl | rfl | rfl | rfl | rfl | rfl | rfl | rfl | rfl | rfl | rfl | rfl | rfl | rfl | rfl | rfl | rfl | rfl | rfl | rfl | rfl | rfl | rfl | rfl | rfl | rfl | rfl | rfl | rfl | rfl | rfl | rfl | rfl | rfl | rfl | rfl | rfl | rfl | rfl | rfl | rfl | rfl | rfl | rfl | rfl | rfl | rfl | rfl | rfl | rfl | rfl | rfl | rfl | rfl | rfl | rfl | rfl
    · rw [m0_0]; rfl
    · rw [m0_1]; rfl
    · exact congrArg some (Prod.ext rfl (cz m0_2))
    · exact congrArg some (Prod.ext rfl (cz m0_3))
    · exact congrArg some (Prod.ext rfl (cz m0_4))
    · exact congrArg some (Prod.ext rfl (cz m0_5))
    · exact congrArg some (Prod.ext rfl (cz m0_6))
    · exact congrArg some (Prod.ext rfl (cz m0_7))
    · exact congrArg some (Prod.ext rfl (cz m0_8))
    · exact congrArg some (Prod.ext rfl (cz m0_9))
    · exact congrArg some (Prod.ext rfl (cz m0_10))
    · exact congrArg some (Prod.ext rfl (cz m0_11))
    · rw [m0_12]; rfl
    · exact congrArg some (Prod.ext rfl (cz m0_13))
    · exact congrArg some (Prod.ext rfl (cz m0_14))
    · exact congrArg some (Prod.ext rfl (cz m0_15))
    · exact congrArg some (Prod.ext rfl (cz m0_16))
    · exact congrArg some (Prod.ext rfl (cz m0_17))
    · exact congrArg some (Prod.ext rfl (cz m0_18))
    · exact congrArg some (Prod.ext rfl (cz m0_19))
    · exact congrArg some (Prod.ext rfl (cz m0_20))
    · exact congrArg some (Prod.ext rfl (cz m0_21))
    · exact congrArg some (Prod.ext rfl (cz m0_22))
    · rw [m0_23]; rfl
    · rw [m0_24]; rfl
    · exact congrArg some (Prod.ext rfl (cz m0_25))
    · exact congrArg some (Prod.ext rfl (cz m0_26))
    · exact congrArg some (Prod.ext rfl (cz m0_27))
    · exact congrArg some (Prod.ext rfl (cz m0_28))
    · exact congrArg some (Prod.ext rfl (cz m0_29))
    · exact congrArg some (Prod.ext rfl (cz m0_30))
    · exact congrArg some (Prod.ext rfl (cz m0_31))
    · exact congrArg some (Prod.ext rfl (cz m0_32))
    · exact congrArg some (Prod.ext rfl (cz m0_33))
    · exact congrArg some (Prod.ext rfl (cz m0_34))
    · rw [m0_35]; rfl
    · exact congrArg some (Prod.ext rfl (cz m0_36))
    · exact congrArg some (Prod.ext rfl (cz m0_37))
    · exact congrArg some (Prod.ext rfl (cz m0_38))
    · exact congrArg some (Prod.ext rfl (cz m0_39))
    · exact congrArg some (Prod.ext rfl (cz m0_40))
    · exact congrArg some (Prod.ext rfl (cz m0_41))
    · exact congrArg some (Prod.ext rfl (cz m0_42))
    · exact congrArg some (Prod.ext rfl (cz m0_43))
    · exact congrArg some (Prod.ext rfl (cz m0_44))
    · exact congrArg some (Prod.ext rfl (cz m0_45))
    · exact congrArg some (Prod.ext rfl (cz m0_46))
    · exact congrArg some (Prod.ext rfl (cz m0_47))
    · rw [m0_48]; rfl
    · exact congrArg some (Prod.ext rfl (cz m0_49))
    · rw [m0_50]; rfl
    · exact congrArg some (Prod.ext rfl (cz m0_51))
    · exact congrArg some (Prod.ext rfl (cz m0_52))
    · rw [m0_53]; rfl
    · exact congrArg some (Prod.ext rfl (cz m0_54))
    · exact congrArg some (Prod.ext rfl (cz m0_55))
    · exact congrArg some (Prod.ext rfl (cz m0_56))
    · exact congrArg some (Prod.ext rfl (cz m0_57))
    · exact congrArg some (Prod.ext rfl (cz m0_58))
    · exact congrArg some (Prod.ext rfl (cz m0_59))
    · exact congrArg some (Prod.ext rfl (cz m0_60))
    · exact congrArg some (Prod.ext rfl (cz m0_61))
    · exact congrArg some (Prod.ext rfl (cz m0_62))
    · exact congrArg some (Prod.ext rfl (cz m0_63))
    · exact congrArg some (Prod.ext rfl (cz m0_64))
    · exact congrArg some (Prod.ext rfl (cz m0_65))
    · exact congrArg some (Prod.ext rfl (cz m0_66))
    · exact congrArg some (Prod.ext rfl (cz m0_67))
    · exact congrArg some (Prod.ext rfl (cz m0_68))
    · exact congrArg some (Prod.ext rfl (cz m0_69))
    · exact congrArg some (Prod.ext rfl (cz m0_70))
    · exact congrArg some (Prod.ext rfl (cz m0_71))
  · rw [List.getElem?_eq_none (by simp [cws]; omega), List.getElem?_eq_none (Nat.not_lt.mp h)]
