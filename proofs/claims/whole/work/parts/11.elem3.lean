section ELEM
variable {X : List Int} {a0 a1 a2 a3 a4 a5 a6 a7 a8 a9 a10 a11 a12 a13 : AV} {st : List AV} {mem : AM} {x y n0 n1 n2 n3 n4 n5 n6 : Int} {s0 s1 s2 s3 : AV} {r r0 r1 r2 r3 r4 r5 : Nat}
theorem eX5_passes_40 : ev X m_X5_passes 40 [a0, a1, a2] (vI x :: vR r :: st) mem = evb X (aget mem r x) m_X5_passes 41 [a0, a1, a2] st mem := ke_iaload dX5_passes_40
theorem eX5_passes_41 : ev X m_X5_passes 41 [a0, a1, a2] (vI y :: vI x :: vR r :: st) mem = evm X (aput mem r x y) m_X5_passes 42 [a0, a1, a2] st := ke_iastore dX5_passes_41
theorem eX5_passes_42 : ev X m_X5_passes 42 [vR r, a1, a2] st mem = ev X m_X5_passes 43 [vR r, a1, a2] (vR r :: st) mem := ke_aload_n rfl dX5_passes_42
theorem eX5_passes_43 : ev X m_X5_passes 43 [a0, a1, a2] (vI x :: st) mem = ev X m_X5_passes 44 [a0, a1, a2] (vI x :: vI x :: st) mem := ke_dupI dX5_passes_43
theorem eX5_passes_43r : ev X m_X5_passes 43 [a0, a1, a2] (vR r :: st) mem = ev X m_X5_passes 44 [a0, a1, a2] (vR r :: vR r :: st) mem := ke_dupR dX5_passes_43
theorem eX5_passes_44 : ev X m_X5_passes 44 [a0, a1, a2] (vR r :: st) mem = evb X (fget mem r 5 24) m_X5_passes 47 [a0, a1, a2] st mem := ke_getf rfl dX5_passes_44
theorem eX5_passes_47 : ev X m_X5_passes 47 [a0, a1, a2] st mem = ev X m_X5_passes 48 [a0, a1, a2] (vI 1 :: st) mem := ke_iconst (by decide) dX5_passes_47
theorem eX5_passes_48 : ev X m_X5_passes 48 [a0, a1, a2] (vI y :: vI x :: st) mem = ev X m_X5_passes 49 [a0, a1, a2] (vI (w32 (x + y)) :: st) mem := ke_iadd dX5_passes_48
theorem eX5_passes_49 : ev X m_X5_passes 49 [a0, a1, a2] (vI x :: vR r :: st) mem = evm X (fput mem r 5 24 (vI x)) m_X5_passes 52 [a0, a1, a2] st := ke_putf rfl (by decide +kernel) dX5_passes_49
theorem eX5_passes_52 : ev X m_X5_passes 52 [a0, a1, vI x] st mem = ev X m_X5_passes 55 [a0, a1, vI (w32 (x + 1))] st mem := ke_iinc rfl (Nat.le_of_ble_eq_true rfl) rfl dX5_passes_52
theorem eX5_passes_55 : ev X m_X5_passes 55 [a0, a1, a2] st mem = ev X m_X5_passes 2 [a0, a1, a2] st mem := ke_goto dX5_passes_55 rfl
theorem eX5_passes_58 : ev X m_X5_passes 58 [a0, a1, a2] [] mem = some (none, mem) := ke_return dX5_passes_58 rfl
theorem eX5_passOne_0 : ev X m_X5_passOne 0 [vR r, a1, a2] st mem = ev X m_X5_passOne 1 [vR r, a1, a2] (vR r :: st) mem := ke_aload_n rfl dX5_passOne_0
theorem eX5_passOne_1 : ev X m_X5_passOne 1 [a0, a1, a2] (vR r :: st) mem = evb X (fget mem r 5 23) m_X5_passOne 4 [a0, a1, a2] st mem := ke_getf rfl dX5_passOne_1
theorem eX5_passOne_4 : ev X m_X5_passOne 4 [a0, a1, a2] (vI x :: st) mem = if x = 0 then ev X m_X5_passOne 11 [a0, a1, a2] st mem else ev X m_X5_passOne 7 [a0, a1, a2] st mem := ke_if_eq dX5_passOne_4 rfl
theorem eX5_passOne_7 : ev X m_X5_passOne 7 [a0, vI x, a2] st mem = ev X m_X5_passOne 8 [a0, vI x, a2] (vI x :: st) mem := ke_iload_n rfl dX5_passOne_7
theorem eX5_passOne_8 : ev X m_X5_passOne 8 [a0, a1, a2] st mem = ev X m_X5_passOne 20 [a0, a1, a2] st mem := ke_goto dX5_passOne_8 rfl
theorem eX5_passOne_11 : ev X m_X5_passOne 11 [vR r, a1, a2] st mem = ev X m_X5_passOne 12 [vR r, a1, a2] (vR r :: st) mem := ke_aload_n rfl dX5_passOne_11
theorem eX5_passOne_12 : ev X m_X5_passOne 12 [a0, a1, a2] (vR r :: st) mem = evb X (fget mem r 5 21) m_X5_passOne 15 [a0, a1, a2] st mem := ke_getf rfl dX5_passOne_12
theorem eX5_passOne_15 : ev X m_X5_passOne 15 [vR r, a1, a2] st mem = ev X m_X5_passOne 16 [vR r, a1, a2] (vR r :: st) mem := ke_aload_n rfl dX5_passOne_15
theorem eX5_passOne_16 : ev X m_X5_passOne 16 [a0, a1, a2] (vR r :: st) mem = evb X (fget mem r 5 24) m_X5_passOne 19 [a0, a1, a2] st mem := ke_getf rfl dX5_passOne_16
theorem eX5_passOne_19 : ev X m_X5_passOne 19 [a0, a1, a2] (vI x :: vR r :: st) mem = evb X (aget mem r x) m_X5_passOne 20 [a0, a1, a2] st mem := ke_iaload dX5_passOne_19
theorem eX5_passOne_20 : ev X m_X5_passOne 20 [a0, a1, a2] (vI x :: st) mem = ev X m_X5_passOne 21 [a0, a1, vI x] st mem := ke_istore_n (Nat.le_of_ble_eq_true rfl) rfl dX5_passOne_20
theorem eX5_passOne_21 : ev X m_X5_passOne 21 [vR r, a1, a2] st mem = ev X m_X5_passOne 22 [vR r, a1, a2] (vR r :: st) mem := ke_aload_n rfl dX5_passOne_21
theorem eX5_passOne_22 : ev X m_X5_passOne 22 [a0, a1, a2] (vR r :: st) mem = evb X (fget mem r 5 23) m_X5_passOne 25 [a0, a1, a2] st mem := ke_getf rfl dX5_passOne_22
theorem eX5_passOne_25 : ev X m_X5_passOne 25 [a0, a1, a2] (vI x :: st) mem = if x = 0 then ev X m_X5_passOne 38 [a0, a1, a2] st mem else ev X m_X5_passOne 28 [a0, a1, a2] st mem := ke_if_eq dX5_passOne_25 rfl
theorem eX5_passOne_28 : ev X m_X5_passOne 28 [vR r, a1, a2] st mem = ev X m_X5_passOne 29 [vR r, a1, a2] (vR r :: st) mem := ke_aload_n rfl dX5_passOne_28
theorem eX5_passOne_29 : ev X m_X5_passOne 29 [a0, a1, a2] (vR r :: st) mem = evb X (fget mem r 5 21) m_X5_passOne 32 [a0, a1, a2] st mem := ke_getf rfl dX5_passOne_29
theorem eX5_passOne_32 : ev X m_X5_passOne 32 [vR r, a1, a2] st mem = ev X m_X5_passOne 33 [vR r, a1, a2] (vR r :: st) mem := ke_aload_n rfl dX5_passOne_32
theorem eX5_passOne_33 : ev X m_X5_passOne 33 [a0, a1, a2] (vR r :: st) mem = evb X (fget mem r 5 24) m_X5_passOne 36 [a0, a1, a2] st mem := ke_getf rfl dX5_passOne_33
theorem eX5_passOne_36 : ev X m_X5_passOne 36 [a0, vI x, a2] st mem = ev X m_X5_passOne 37 [a0, vI x, a2] (vI x :: st) mem := ke_iload_n rfl dX5_passOne_36
theorem eX5_passOne_37 : ev X m_X5_passOne 37 [a0, a1, a2] (vI y :: vI x :: vR r :: st) mem = evm X (aput mem r x y) m_X5_passOne 38 [a0, a1, a2] st := ke_iastore dX5_passOne_37
theorem eX5_passOne_38 : ev X m_X5_passOne 38 [vR r, a1, a2] st mem = ev X m_X5_passOne 39 [vR r, a1, a2] (vR r :: st) mem := ke_aload_n rfl dX5_passOne_38
theorem eX5_passOne_39 : ev X m_X5_passOne 39 [a0, a1, a2] (vI x :: st) mem = ev X m_X5_passOne 40 [a0, a1, a2] (vI x :: vI x :: st) mem := ke_dupI dX5_passOne_39
theorem eX5_passOne_39r : ev X m_X5_passOne 39 [a0, a1, a2] (vR r :: st) mem = ev X m_X5_passOne 40 [a0, a1, a2] (vR r :: vR r :: st) mem := ke_dupR dX5_passOne_39
theorem eX5_passOne_40 : ev X m_X5_passOne 40 [a0, a1, a2] (vR r :: st) mem = evb X (fget mem r 5 24) m_X5_passOne 43 [a0, a1, a2] st mem := ke_getf rfl dX5_passOne_40
theorem eX5_passOne_43 : ev X m_X5_passOne 43 [a0, a1, a2] st mem = ev X m_X5_passOne 44 [a0, a1, a2] (vI 1 :: st) mem := ke_iconst (by decide) dX5_passOne_43
theorem eX5_passOne_44 : ev X m_X5_passOne 44 [a0, a1, a2] (vI y :: vI x :: st) mem = ev X m_X5_passOne 45 [a0, a1, a2] (vI (w32 (x + y)) :: st) mem := ke_iadd dX5_passOne_44
theorem eX5_passOne_45 : ev X m_X5_passOne 45 [a0, a1, a2] (vI x :: vR r :: st) mem = evm X (fput mem r 5 24 (vI x)) m_X5_passOne 48 [a0, a1, a2] st := ke_putf rfl (by decide +kernel) dX5_passOne_45
theorem eX5_passOne_48 : ev X m_X5_passOne 48 [a0, a1, vI x] st mem = ev X m_X5_passOne 49 [a0, a1, vI x] (vI x :: st) mem := ke_iload_n rfl dX5_passOne_48
theorem eX5_passOne_49 : ev X m_X5_passOne 49 [a0, a1, a2] [vI x] mem = some (some (vI x), mem) := ke_ireturn dX5_passOne_49 rfl
theorem eX5_comes_0 : ev X m_X5_comes 0 [a0, a1, a2] st mem = ev X m_X5_comes 1 [a0, a1, a2] (vI 3 :: st) mem := ke_iconst (by decide) dX5_comes_0
theorem eX5_comes_1 : ev X m_X5_comes 1 [a0, vI x, a2] st mem = ev X m_X5_comes 2 [a0, vI x, a2] (vI x :: st) mem := ke_iload_n rfl dX5_comes_1
theorem eX5_comes_2 : ev X m_X5_comes 2 [a0, a1, a2] (vI y :: vI x :: st) mem = ev X m_X5_comes 3 [a0, a1, a2] (vI (w32 (x * y)) :: st) mem := ke_imul dX5_comes_2
theorem eX5_comes_3 : ev X m_X5_comes 3 [a0, a1, a2] (vI x :: st) mem = ev X m_X5_comes 4 [a0, a1, vI x] st mem := ke_istore_n (Nat.le_of_ble_eq_true rfl) rfl dX5_comes_3
theorem eX5_comes_4 : ev X m_X5_comes 4 [vR r, a1, a2] st mem = ev X m_X5_comes 5 [vR r, a1, a2] (vR r :: st) mem := ke_aload_n rfl dX5_comes_4
theorem eX5_comes_5 : ev X m_X5_comes 5 [a0, a1, a2] (vR r :: st) mem = evb X (fget mem r 5 15) m_X5_comes 8 [a0, a1, a2] st mem := ke_getf rfl dX5_comes_5
theorem eX5_comes_8 : ev X m_X5_comes 8 [a0, vI x, a2] st mem = ev X m_X5_comes 9 [a0, vI x, a2] (vI x :: st) mem := ke_iload_n rfl dX5_comes_8
theorem eX5_comes_9 : ev X m_X5_comes 9 [a0, a1, a2] (vI x :: vR r :: st) mem = evb X (aget mem r x) m_X5_comes 10 [a0, a1, a2] st mem := ke_iaload dX5_comes_9
theorem eX5_comes_10 : ev X m_X5_comes 10 [a0, a1, a2] (vI x :: st) mem = if x = 99 then ev X m_X5_comes 71 [a0, a1, a2] st mem else if x = 100 then ev X m_X5_comes 90 [a0, a1, a2] st mem else if x = 112 then ev X m_X5_comes 44 [a0, a1, a2] st mem else ev X m_X5_comes 101 [a0, a1, a2] st mem := by
  by_cases h0 : x = 99
  · subst h0; rw [if_pos rfl]; exact ke_swL dX5_comes_10 (by decide) (off := 61) (by decide) rfl
  rw [if_neg h0]
  by_cases h1 : x = 100
  · subst h1; rw [if_pos rfl]; exact ke_swL dX5_comes_10 (by decide) (off := 80) (by decide) rfl
  rw [if_neg h1]
  by_cases h2 : x = 112
  · subst h2; rw [if_pos rfl]; exact ke_swL dX5_comes_10 (by decide) (off := 34) (by decide) rfl
  rw [if_neg h2]
  exact ke_swL dX5_comes_10 (by decide) (off := 91) (by simp [Op.lookupswitch.offset, h0, Ne.symm h0, h1, Ne.symm h1, h2, Ne.symm h2]) rfl
theorem eX5_comes_44 : ev X m_X5_comes 44 [vR r, a1, a2] st mem = ev X m_X5_comes 45 [vR r, a1, a2] (vR r :: st) mem := ke_aload_n rfl dX5_comes_44
theorem eX5_comes_45 : ev X m_X5_comes 45 [vR r, a1, a2] st mem = ev X m_X5_comes 46 [vR r, a1, a2] (vR r :: st) mem := ke_aload_n rfl dX5_comes_45
theorem eX5_comes_46 : ev X m_X5_comes 46 [a0, a1, a2] (vR r :: st) mem = evb X (fget mem r 5 17) m_X5_comes 49 [a0, a1, a2] st mem := ke_getf rfl dX5_comes_46
theorem eX5_comes_49 : ev X m_X5_comes 49 [a0, a1, vI x] st mem = ev X m_X5_comes 50 [a0, a1, vI x] (vI x :: st) mem := ke_iload_n rfl dX5_comes_49
theorem eX5_comes_50 : ev X m_X5_comes 50 [a0, a1, a2] (vI x :: vR r :: st) mem = evb X (aget mem r x) m_X5_comes 51 [a0, a1, a2] st mem := ke_iaload dX5_comes_50
theorem eX5_comes_51 : ev X m_X5_comes 51 [vR r, a1, a2] st mem = ev X m_X5_comes 52 [vR r, a1, a2] (vR r :: st) mem := ke_aload_n rfl dX5_comes_51
theorem eX5_comes_52 : ev X m_X5_comes 52 [a0, a1, a2] (vR r :: st) mem = evb X (fget mem r 5 17) m_X5_comes 55 [a0, a1, a2] st mem := ke_getf rfl dX5_comes_52
theorem eX5_comes_55 : ev X m_X5_comes 55 [a0, a1, vI x] st mem = ev X m_X5_comes 56 [a0, a1, vI x] (vI x :: st) mem := ke_iload_n rfl dX5_comes_55
theorem eX5_comes_56 : ev X m_X5_comes 56 [a0, a1, a2] st mem = ev X m_X5_comes 57 [a0, a1, a2] (vI 1 :: st) mem := ke_iconst (by decide) dX5_comes_56
theorem eX5_comes_57 : ev X m_X5_comes 57 [a0, a1, a2] (vI y :: vI x :: st) mem = ev X m_X5_comes 58 [a0, a1, a2] (vI (w32 (x + y)) :: st) mem := ke_iadd dX5_comes_57
theorem eX5_comes_58 : ev X m_X5_comes 58 [a0, a1, a2] (vI x :: vR r :: st) mem = evb X (aget mem r x) m_X5_comes 59 [a0, a1, a2] st mem := ke_iaload dX5_comes_58
theorem eX5_comes_59 : ev X m_X5_comes 59 [vR r, a1, a2] st mem = ev X m_X5_comes 60 [vR r, a1, a2] (vR r :: st) mem := ke_aload_n rfl dX5_comes_59
theorem eX5_comes_60 : ev X m_X5_comes 60 [a0, a1, a2] (vR r :: st) mem = evb X (fget mem r 5 17) m_X5_comes 63 [a0, a1, a2] st mem := ke_getf rfl dX5_comes_60
theorem eX5_comes_63 : ev X m_X5_comes 63 [a0, a1, vI x] st mem = ev X m_X5_comes 64 [a0, a1, vI x] (vI x :: st) mem := ke_iload_n rfl dX5_comes_63
theorem eX5_comes_64 : ev X m_X5_comes 64 [a0, a1, a2] st mem = ev X m_X5_comes 65 [a0, a1, a2] (vI 2 :: st) mem := ke_iconst (by decide) dX5_comes_64
theorem eX5_comes_65 : ev X m_X5_comes 65 [a0, a1, a2] (vI y :: vI x :: st) mem = ev X m_X5_comes 66 [a0, a1, a2] (vI (w32 (x + y)) :: st) mem := ke_iadd dX5_comes_65
theorem eX5_comes_66 : ev X m_X5_comes 66 [a0, a1, a2] (vI x :: vR r :: st) mem = evb X (aget mem r x) m_X5_comes 67 [a0, a1, a2] st mem := ke_iaload dX5_comes_66
theorem eX5_comes_67 : ev X m_X5_comes 67 [a0, a1, a2] (vI n2 :: vI n1 :: vI n0 :: vR r :: []) mem = evc X (gR mem r 5 (ev X m_X5_comesOne 0 [vR r, vI n0, vI n1, vI n2, vS] [] mem)) m_X5_comes 70 [a0, a1, a2] [] := ke_callV (m' := m_X5_comesOne) (as := [vI n0, vI n1, vI n2]) (n := 3) (rest := []) dX5_comes_67 rfl rfl rfl rfl rfl rfl (Nat.le_of_ble_eq_true rfl) (Nat.le_of_ble_eq_true rfl) (Nat.le_of_ble_eq_true rfl) rfl
theorem eX5_comes_70a : ev X m_X5_comes 70 [a0, a1, a2] [vI 1] mem = some (some (vI 1), mem) := ke_zreturn dX5_comes_70 rfl rfl
theorem eX5_comes_70b : ev X m_X5_comes 70 [a0, a1, a2] [vI 0] mem = some (some (vI 0), mem) := ke_zreturn dX5_comes_70 rfl rfl
theorem eX5_comes_70c {c : Prop} [Decidable c] : ev X m_X5_comes 70 [a0, a1, a2] [vI (if c then 1 else 0)] mem = some (some (vI (if c then 1 else 0)), mem) := ke_zreturn dX5_comes_70 rfl (by split <;> rfl)
theorem eX5_comes_71 : ev X m_X5_comes 71 [vR r, a1, a2] st mem = ev X m_X5_comes 72 [vR r, a1, a2] (vR r :: st) mem := ke_aload_n rfl dX5_comes_71
theorem eX5_comes_72 : ev X m_X5_comes 72 [vR r, a1, a2] st mem = ev X m_X5_comes 73 [vR r, a1, a2] (vR r :: st) mem := ke_aload_n rfl dX5_comes_72
theorem eX5_comes_73 : ev X m_X5_comes 73 [a0, a1, a2] (vR r :: st) mem = evb X (fget mem r 5 17) m_X5_comes 76 [a0, a1, a2] st mem := ke_getf rfl dX5_comes_73
theorem eX5_comes_76 : ev X m_X5_comes 76 [a0, a1, vI x] st mem = ev X m_X5_comes 77 [a0, a1, vI x] (vI x :: st) mem := ke_iload_n rfl dX5_comes_76
theorem eX5_comes_77 : ev X m_X5_comes 77 [a0, a1, a2] (vI x :: vR r :: st) mem = evb X (aget mem r x) m_X5_comes 78 [a0, a1, a2] st mem := ke_iaload dX5_comes_77
theorem eX5_comes_78 : ev X m_X5_comes 78 [vR r, a1, a2] st mem = ev X m_X5_comes 79 [vR r, a1, a2] (vR r :: st) mem := ke_aload_n rfl dX5_comes_78
theorem eX5_comes_79 : ev X m_X5_comes 79 [a0, a1, a2] (vR r :: st) mem = evb X (fget mem r 5 17) m_X5_comes 82 [a0, a1, a2] st mem := ke_getf rfl dX5_comes_79
theorem eX5_comes_82 : ev X m_X5_comes 82 [a0, a1, vI x] st mem = ev X m_X5_comes 83 [a0, a1, vI x] (vI x :: st) mem := ke_iload_n rfl dX5_comes_82
theorem eX5_comes_83 : ev X m_X5_comes 83 [a0, a1, a2] st mem = ev X m_X5_comes 84 [a0, a1, a2] (vI 1 :: st) mem := ke_iconst (by decide) dX5_comes_83
theorem eX5_comes_84 : ev X m_X5_comes 84 [a0, a1, a2] (vI y :: vI x :: st) mem = ev X m_X5_comes 85 [a0, a1, a2] (vI (w32 (x + y)) :: st) mem := ke_iadd dX5_comes_84
theorem eX5_comes_85 : ev X m_X5_comes 85 [a0, a1, a2] (vI x :: vR r :: st) mem = evb X (aget mem r x) m_X5_comes 86 [a0, a1, a2] st mem := ke_iaload dX5_comes_85
theorem eX5_comes_86 : ev X m_X5_comes 86 [a0, a1, a2] (vI n1 :: vI n0 :: vR r :: []) mem = evc X (gR mem r 5 (ev X m_X5_comesParcel 0 [vR r, vI n0, vI n1] [] mem)) m_X5_comes 89 [a0, a1, a2] [] := ke_callV (m' := m_X5_comesParcel) (as := [vI n0, vI n1]) (n := 2) (rest := []) dX5_comes_86 rfl rfl rfl rfl rfl rfl (Nat.le_of_ble_eq_true rfl) (Nat.le_of_ble_eq_true rfl) (Nat.le_of_ble_eq_true rfl) rfl
theorem eX5_comes_89a : ev X m_X5_comes 89 [a0, a1, a2] [vI 1] mem = some (some (vI 1), mem) := ke_zreturn dX5_comes_89 rfl rfl
theorem eX5_comes_89b : ev X m_X5_comes 89 [a0, a1, a2] [vI 0] mem = some (some (vI 0), mem) := ke_zreturn dX5_comes_89 rfl rfl
theorem eX5_comes_89c {c : Prop} [Decidable c] : ev X m_X5_comes 89 [a0, a1, a2] [vI (if c then 1 else 0)] mem = some (some (vI (if c then 1 else 0)), mem) := ke_zreturn dX5_comes_89 rfl (by split <;> rfl)
theorem eX5_comes_90 : ev X m_X5_comes 90 [vR r, a1, a2] st mem = ev X m_X5_comes 91 [vR r, a1, a2] (vR r :: st) mem := ke_aload_n rfl dX5_comes_90
theorem eX5_comes_91 : ev X m_X5_comes 91 [vR r, a1, a2] st mem = ev X m_X5_comes 92 [vR r, a1, a2] (vR r :: st) mem := ke_aload_n rfl dX5_comes_91
theorem eX5_comes_92 : ev X m_X5_comes 92 [a0, a1, a2] (vR r :: st) mem = evb X (fget mem r 5 17) m_X5_comes 95 [a0, a1, a2] st mem := ke_getf rfl dX5_comes_92
theorem eX5_comes_95 : ev X m_X5_comes 95 [a0, a1, vI x] st mem = ev X m_X5_comes 96 [a0, a1, vI x] (vI x :: st) mem := ke_iload_n rfl dX5_comes_95
theorem eX5_comes_96 : ev X m_X5_comes 96 [a0, a1, a2] (vI x :: vR r :: st) mem = evb X (aget mem r x) m_X5_comes 97 [a0, a1, a2] st mem := ke_iaload dX5_comes_96
theorem eX5_comes_97 : ev X m_X5_comes 97 [a0, a1, a2] (vI n0 :: vR r :: []) mem = evc X (gR mem r 5 (ev X m_X5_comesDays 0 [vR r, vI n0] [] mem)) m_X5_comes 100 [a0, a1, a2] [] := ke_callV (m' := m_X5_comesDays) (as := [vI n0]) (n := 1) (rest := []) dX5_comes_97 rfl rfl rfl rfl rfl rfl (Nat.le_of_ble_eq_true rfl) (Nat.le_of_ble_eq_true rfl) (Nat.le_of_ble_eq_true rfl) rfl
theorem eX5_comes_100a : ev X m_X5_comes 100 [a0, a1, a2] [vI 1] mem = some (some (vI 1), mem) := ke_zreturn dX5_comes_100 rfl rfl
theorem eX5_comes_100b : ev X m_X5_comes 100 [a0, a1, a2] [vI 0] mem = some (some (vI 0), mem) := ke_zreturn dX5_comes_100 rfl rfl
theorem eX5_comes_100c {c : Prop} [Decidable c] : ev X m_X5_comes 100 [a0, a1, a2] [vI (if c then 1 else 0)] mem = some (some (vI (if c then 1 else 0)), mem) := ke_zreturn dX5_comes_100 rfl (by split <;> rfl)
theorem eX5_comes_101 : ev X m_X5_comes 101 [vR r, a1, a2] st mem = ev X m_X5_comes 102 [vR r, a1, a2] (vR r :: st) mem := ke_aload_n rfl dX5_comes_101
theorem eX5_comes_102 : ev X m_X5_comes 102 [vR r, a1, a2] st mem = ev X m_X5_comes 103 [vR r, a1, a2] (vR r :: st) mem := ke_aload_n rfl dX5_comes_102
theorem eX5_comes_103 : ev X m_X5_comes 103 [a0, a1, a2] (vR r :: st) mem = evb X (fget mem r 5 15) m_X5_comes 106 [a0, a1, a2] st mem := ke_getf rfl dX5_comes_103
theorem eX5_comes_106 : ev X m_X5_comes 106 [a0, vI x, a2] st mem = ev X m_X5_comes 107 [a0, vI x, a2] (vI x :: st) mem := ke_iload_n rfl dX5_comes_106
theorem eX5_comes_107 : ev X m_X5_comes 107 [a0, a1, a2] (vI x :: vR r :: st) mem = evb X (aget mem r x) m_X5_comes 108 [a0, a1, a2] st mem := ke_iaload dX5_comes_107
theorem eX5_comes_108 : ev X m_X5_comes 108 [vR r, a1, a2] st mem = ev X m_X5_comes 109 [vR r, a1, a2] (vR r :: st) mem := ke_aload_n rfl dX5_comes_108
theorem eX5_comes_109 : ev X m_X5_comes 109 [a0, a1, a2] (vR r :: st) mem = evb X (fget mem r 5 17) m_X5_comes 112 [a0, a1, a2] st mem := ke_getf rfl dX5_comes_109
theorem eX5_comes_112 : ev X m_X5_comes 112 [a0, a1, vI x] st mem = ev X m_X5_comes 113 [a0, a1, vI x] (vI x :: st) mem := ke_iload_n rfl dX5_comes_112
theorem eX5_comes_113 : ev X m_X5_comes 113 [a0, a1, a2] (vI x :: vR r :: st) mem = evb X (aget mem r x) m_X5_comes 114 [a0, a1, a2] st mem := ke_iaload dX5_comes_113
theorem eX5_comes_114 : ev X m_X5_comes 114 [vR r, a1, a2] st mem = ev X m_X5_comes 115 [vR r, a1, a2] (vR r :: st) mem := ke_aload_n rfl dX5_comes_114
theorem eX5_comes_115 : ev X m_X5_comes 115 [a0, a1, a2] (vR r :: st) mem = evb X (fget mem r 5 17) m_X5_comes 118 [a0, a1, a2] st mem := ke_getf rfl dX5_comes_115
theorem eX5_comes_118 : ev X m_X5_comes 118 [a0, a1, vI x] st mem = ev X m_X5_comes 119 [a0, a1, vI x] (vI x :: st) mem := ke_iload_n rfl dX5_comes_118
theorem eX5_comes_119 : ev X m_X5_comes 119 [a0, a1, a2] st mem = ev X m_X5_comes 120 [a0, a1, a2] (vI 1 :: st) mem := ke_iconst (by decide) dX5_comes_119
theorem eX5_comes_120 : ev X m_X5_comes 120 [a0, a1, a2] (vI y :: vI x :: st) mem = ev X m_X5_comes 121 [a0, a1, a2] (vI (w32 (x + y)) :: st) mem := ke_iadd dX5_comes_120
theorem eX5_comes_121 : ev X m_X5_comes 121 [a0, a1, a2] (vI x :: vR r :: st) mem = evb X (aget mem r x) m_X5_comes 122 [a0, a1, a2] st mem := ke_iaload dX5_comes_121
theorem eX5_comes_122 : ev X m_X5_comes 122 [vR r, a1, a2] st mem = ev X m_X5_comes 123 [vR r, a1, a2] (vR r :: st) mem := ke_aload_n rfl dX5_comes_122
theorem eX5_comes_123 : ev X m_X5_comes 123 [a0, a1, a2] (vR r :: st) mem = evb X (fget mem r 5 17) m_X5_comes 126 [a0, a1, a2] st mem := ke_getf rfl dX5_comes_123
theorem eX5_comes_126 : ev X m_X5_comes 126 [a0, a1, vI x] st mem = ev X m_X5_comes 127 [a0, a1, vI x] (vI x :: st) mem := ke_iload_n rfl dX5_comes_126
theorem eX5_comes_127 : ev X m_X5_comes 127 [a0, a1, a2] st mem = ev X m_X5_comes 128 [a0, a1, a2] (vI 2 :: st) mem := ke_iconst (by decide) dX5_comes_127
theorem eX5_comes_128 : ev X m_X5_comes 128 [a0, a1, a2] (vI y :: vI x :: st) mem = ev X m_X5_comes 129 [a0, a1, a2] (vI (w32 (x + y)) :: st) mem := ke_iadd dX5_comes_128
theorem eX5_comes_129 : ev X m_X5_comes 129 [a0, a1, a2] (vI x :: vR r :: st) mem = evb X (aget mem r x) m_X5_comes 130 [a0, a1, a2] st mem := ke_iaload dX5_comes_129
theorem eX5_comes_130 : ev X m_X5_comes 130 [a0, a1, a2] (vI n3 :: vI n2 :: vI n1 :: vI n0 :: vR r :: []) mem = evc X (gR mem r 5 (ev X m_X5_comesTwo 0 [vR r, vI n0, vI n1, vI n2, vI n3] [] mem)) m_X5_comes 133 [a0, a1, a2] [] := ke_callV (m' := m_X5_comesTwo) (as := [vI n0, vI n1, vI n2, vI n3]) (n := 4) (rest := []) dX5_comes_130 rfl rfl rfl rfl rfl rfl (Nat.le_of_ble_eq_true rfl) (Nat.le_of_ble_eq_true rfl) (Nat.le_of_ble_eq_true rfl) rfl
theorem eX5_comes_133a : ev X m_X5_comes 133 [a0, a1, a2] [vI 1] mem = some (some (vI 1), mem) := ke_zreturn dX5_comes_133 rfl rfl
theorem eX5_comes_133b : ev X m_X5_comes 133 [a0, a1, a2] [vI 0] mem = some (some (vI 0), mem) := ke_zreturn dX5_comes_133 rfl rfl
theorem eX5_comes_133c {c : Prop} [Decidable c] : ev X m_X5_comes 133 [a0, a1, a2] [vI (if c then 1 else 0)] mem = some (some (vI (if c then 1 else 0)), mem) := ke_zreturn dX5_comes_133 rfl (by split <;> rfl)
theorem eX5_comesOne_0 : ev X m_X5_comesOne 0 [a0, a1, a2, vI x, a4] st mem = ev X m_X5_comesOne 1 [a0, a1, a2, vI x, a4] (vI x :: st) mem := ke_iload_n rfl dX5_comesOne_0
theorem eX5_comesOne_1 : ev X m_X5_comesOne 1 [a0, a1, a2, a3, a4] st mem = ev X m_X5_comesOne 3 [a0, a1, a2, a3, a4] (vI 30 :: st) mem := ke_bipush (by decide) dX5_comesOne_1
theorem eX5_comesOne_3 : ev X m_X5_comesOne 3 [a0, a1, a2, a3, a4] (vI y :: vI x :: st) mem = if y < x then ev X m_X5_comesOne 15 [a0, a1, a2, a3, a4] st mem else ev X m_X5_comesOne 6 [a0, a1, a2, a3, a4] st mem := ke_icmp_gt dX5_comesOne_3 rfl
theorem eX5_comesOne_6 : ev X m_X5_comesOne 6 [vR r, a1, a2, a3, a4] st mem = ev X m_X5_comesOne 7 [vR r, a1, a2, a3, a4] (vR r :: st) mem := ke_aload_n rfl dX5_comesOne_6
theorem eX5_comesOne_7 : ev X m_X5_comesOne 7 [a0, a1, a2, a3, a4] (vR r :: st) mem = evb X (fget mem r 5 11) m_X5_comesOne 10 [a0, a1, a2, a3, a4] st mem := ke_getf rfl dX5_comesOne_7
theorem eX5_comesOne_10 : ev X m_X5_comesOne 10 [a0, a1, a2, a3, a4] st mem = ev X m_X5_comesOne 12 [a0, a1, a2, a3, a4] (vI 6 :: st) mem := ke_bipush (by decide) dX5_comesOne_10
theorem eX5_comesOne_12 : ev X m_X5_comesOne 12 [a0, a1, a2, a3, a4] (vI y :: vI x :: st) mem = if x = y then ev X m_X5_comesOne 15 [a0, a1, a2, a3, a4] st mem else ev X m_X5_comesOne 17 [a0, a1, a2, a3, a4] st mem := ke_icmp_ne dX5_comesOne_12 rfl
theorem eX5_comesOne_15 : ev X m_X5_comesOne 15 [a0, a1, a2, a3, a4] st mem = ev X m_X5_comesOne 16 [a0, a1, a2, a3, a4] (vI 0 :: st) mem := ke_iconst (by decide) dX5_comesOne_15
theorem eX5_comesOne_16a : ev X m_X5_comesOne 16 [a0, a1, a2, a3, a4] [vI 1] mem = some (some (vI 1), mem) := ke_zreturn dX5_comesOne_16 rfl rfl
theorem eX5_comesOne_16b : ev X m_X5_comesOne 16 [a0, a1, a2, a3, a4] [vI 0] mem = some (some (vI 0), mem) := ke_zreturn dX5_comesOne_16 rfl rfl
theorem eX5_comesOne_16c {c : Prop} [Decidable c] : ev X m_X5_comesOne 16 [a0, a1, a2, a3, a4] [vI (if c then 1 else 0)] mem = some (some (vI (if c then 1 else 0)), mem) := ke_zreturn dX5_comesOne_16 rfl (by split <;> rfl)
theorem eX5_comesOne_17 : ev X m_X5_comesOne 17 [vR r, a1, a2, a3, a4] st mem = ev X m_X5_comesOne 18 [vR r, a1, a2, a3, a4] (vR r :: st) mem := ke_aload_n rfl dX5_comesOne_17
theorem eX5_comesOne_18 : ev X m_X5_comesOne 18 [a0, a1, a2, a3, a4] (vR r :: st) mem = evb X (fget mem r 5 1) m_X5_comesOne 21 [a0, a1, a2, a3, a4] st mem := ke_getf rfl dX5_comesOne_18
theorem eX5_comesOne_21 : ev X m_X5_comesOne 21 [vR r, a1, a2, a3, a4] st mem = ev X m_X5_comesOne 22 [vR r, a1, a2, a3, a4] (vR r :: st) mem := ke_aload_n rfl dX5_comesOne_21
theorem eX5_comesOne_22 : ev X m_X5_comesOne 22 [a0, a1, a2, a3, a4] (vR r :: st) mem = evb X (fget mem r 5 11) m_X5_comesOne 25 [a0, a1, a2, a3, a4] st mem := ke_getf rfl dX5_comesOne_22
theorem eX5_comesOne_25 : ev X m_X5_comesOne 25 [a0, vI x, a2, a3, a4] st mem = ev X m_X5_comesOne 26 [a0, vI x, a2, a3, a4] (vI x :: st) mem := ke_iload_n rfl dX5_comesOne_25
theorem eX5_comesOne_26 : ev X m_X5_comesOne 26 [a0, a1, a2, a3, a4] (vI y :: vI x :: vR r :: st) mem = evm X (aput mem r x y) m_X5_comesOne 27 [a0, a1, a2, a3, a4] st := ke_iastore dX5_comesOne_26
theorem eX5_comesOne_27 : ev X m_X5_comesOne 27 [vR r, a1, a2, a3, a4] st mem = ev X m_X5_comesOne 28 [vR r, a1, a2, a3, a4] (vR r :: st) mem := ke_aload_n rfl dX5_comesOne_27
theorem eX5_comesOne_28 : ev X m_X5_comesOne 28 [a0, a1, a2, a3, a4] (vR r :: st) mem = evb X (fget mem r 5 2) m_X5_comesOne 31 [a0, a1, a2, a3, a4] st mem := ke_getf rfl dX5_comesOne_28
theorem eX5_comesOne_31 : ev X m_X5_comesOne 31 [vR r, a1, a2, a3, a4] st mem = ev X m_X5_comesOne 32 [vR r, a1, a2, a3, a4] (vR r :: st) mem := ke_aload_n rfl dX5_comesOne_31
theorem eX5_comesOne_32 : ev X m_X5_comesOne 32 [a0, a1, a2, a3, a4] (vR r :: st) mem = evb X (fget mem r 5 11) m_X5_comesOne 35 [a0, a1, a2, a3, a4] st mem := ke_getf rfl dX5_comesOne_32
theorem eX5_comesOne_35 : ev X m_X5_comesOne 35 [a0, a1, vI x, a3, a4] st mem = ev X m_X5_comesOne 36 [a0, a1, vI x, a3, a4] (vI x :: st) mem := ke_iload_n rfl dX5_comesOne_35
theorem eX5_comesOne_36 : ev X m_X5_comesOne 36 [a0, a1, a2, a3, a4] (vI y :: vI x :: vR r :: st) mem = evm X (aput mem r x y) m_X5_comesOne 37 [a0, a1, a2, a3, a4] st := ke_iastore dX5_comesOne_36
theorem eX5_comesOne_37 : ev X m_X5_comesOne 37 [vR r, a1, a2, a3, a4] st mem = ev X m_X5_comesOne 38 [vR r, a1, a2, a3, a4] (vR r :: st) mem := ke_aload_n rfl dX5_comesOne_37
theorem eX5_comesOne_38 : ev X m_X5_comesOne 38 [a0, a1, a2, a3, a4] (vR r :: st) mem = evb X (fget mem r 5 3) m_X5_comesOne 41 [a0, a1, a2, a3, a4] st mem := ke_getf rfl dX5_comesOne_38
theorem eX5_comesOne_41 : ev X m_X5_comesOne 41 [vR r, a1, a2, a3, a4] st mem = ev X m_X5_comesOne 42 [vR r, a1, a2, a3, a4] (vR r :: st) mem := ke_aload_n rfl dX5_comesOne_41
theorem eX5_comesOne_42 : ev X m_X5_comesOne 42 [a0, a1, a2, a3, a4] (vR r :: st) mem = evb X (fget mem r 5 11) m_X5_comesOne 45 [a0, a1, a2, a3, a4] st mem := ke_getf rfl dX5_comesOne_42
theorem eX5_comesOne_45 : ev X m_X5_comesOne 45 [a0, a1, a2, vI x, a4] st mem = ev X m_X5_comesOne 46 [a0, a1, a2, vI x, a4] (vI x :: st) mem := ke_iload_n rfl dX5_comesOne_45
theorem eX5_comesOne_46 : ev X m_X5_comesOne 46 [a0, a1, a2, a3, a4] (vI y :: vI x :: vR r :: st) mem = evm X (aput mem r x y) m_X5_comesOne 47 [a0, a1, a2, a3, a4] st := ke_iastore dX5_comesOne_46
theorem eX5_comesOne_47 : ev X m_X5_comesOne 47 [vR r, a1, a2, a3, a4] st mem = ev X m_X5_comesOne 48 [vR r, a1, a2, a3, a4] (vR r :: st) mem := ke_aload_n rfl dX5_comesOne_47
theorem eX5_comesOne_48 : ev X m_X5_comesOne 48 [a0, a1, a2, a3, a4] (vR r :: st) mem = evb X (fget mem r 5 4) m_X5_comesOne 51 [a0, a1, a2, a3, a4] st mem := ke_getf rfl dX5_comesOne_48
theorem eX5_comesOne_51 : ev X m_X5_comesOne 51 [vR r, a1, a2, a3, a4] st mem = ev X m_X5_comesOne 52 [vR r, a1, a2, a3, a4] (vR r :: st) mem := ke_aload_n rfl dX5_comesOne_51
theorem eX5_comesOne_52 : ev X m_X5_comesOne 52 [a0, a1, a2, a3, a4] (vR r :: st) mem = evb X (fget mem r 5 11) m_X5_comesOne 55 [a0, a1, a2, a3, a4] st mem := ke_getf rfl dX5_comesOne_52
theorem eX5_comesOne_55 : ev X m_X5_comesOne 55 [a0, a1, a2, a3, a4] st mem = ev X m_X5_comesOne 56 [a0, a1, a2, a3, a4] (vI 0 :: st) mem := ke_iconst (by decide) dX5_comesOne_55
theorem eX5_comesOne_56 : ev X m_X5_comesOne 56 [a0, a1, a2, a3, a4] (vI y :: vI x :: vR r :: st) mem = evm X (aput mem r x y) m_X5_comesOne 57 [a0, a1, a2, a3, a4] st := ke_iastore dX5_comesOne_56
theorem eX5_comesOne_57 : ev X m_X5_comesOne 57 [a0, a1, a2, a3, a4] st mem = ev X m_X5_comesOne 58 [a0, a1, a2, a3, a4] (vI 0 :: st) mem := ke_iconst (by decide) dX5_comesOne_57
theorem eX5_comesOne_58 : ev X m_X5_comesOne 58 [a0, a1, a2, a3, a4] (vI x :: st) mem = ev X m_X5_comesOne 60 [a0, a1, a2, a3, vI x] st mem := ke_istore (Nat.le_of_ble_eq_true rfl) rfl dX5_comesOne_58
theorem eX5_comesOne_60 : ev X m_X5_comesOne 60 [a0, a1, a2, a3, vI x] st mem = ev X m_X5_comesOne 62 [a0, a1, a2, a3, vI x] (vI x :: st) mem := ke_iload rfl dX5_comesOne_60
theorem eX5_comesOne_62 : ev X m_X5_comesOne 62 [a0, a1, a2, a3, a4] st mem = ev X m_X5_comesOne 64 [a0, a1, a2, a3, a4] (vI 6 :: st) mem := ke_bipush (by decide) dX5_comesOne_62
theorem eX5_comesOne_64 : ev X m_X5_comesOne 64 [a0, a1, a2, a3, a4] (vI y :: vI x :: st) mem = if x < y then ev X m_X5_comesOne 67 [a0, a1, a2, a3, a4] st mem else ev X m_X5_comesOne 103 [a0, a1, a2, a3, a4] st mem := ke_icmp_ge dX5_comesOne_64 rfl
theorem eX5_comesOne_67 : ev X m_X5_comesOne 67 [vR r, a1, a2, a3, a4] st mem = ev X m_X5_comesOne 68 [vR r, a1, a2, a3, a4] (vR r :: st) mem := ke_aload_n rfl dX5_comesOne_67
theorem eX5_comesOne_68 : ev X m_X5_comesOne 68 [a0, a1, a2, a3, a4] (vR r :: st) mem = evb X (fget mem r 5 5) m_X5_comesOne 71 [a0, a1, a2, a3, a4] st mem := ke_getf rfl dX5_comesOne_68
theorem eX5_comesOne_71 : ev X m_X5_comesOne 71 [a0, a1, a2, a3, vI x] st mem = ev X m_X5_comesOne 73 [a0, a1, a2, a3, vI x] (vI x :: st) mem := ke_iload rfl dX5_comesOne_71
theorem eX5_comesOne_73 : ev X m_X5_comesOne 73 [vR r, a1, a2, a3, a4] st mem = ev X m_X5_comesOne 74 [vR r, a1, a2, a3, a4] (vR r :: st) mem := ke_aload_n rfl dX5_comesOne_73
theorem eX5_comesOne_74 : ev X m_X5_comesOne 74 [a0, a1, a2, a3, a4] (vR r :: st) mem = evb X (fget mem r 5 11) m_X5_comesOne 77 [a0, a1, a2, a3, a4] st mem := ke_getf rfl dX5_comesOne_74
theorem eX5_comesOne_77 : ev X m_X5_comesOne 77 [a0, a1, a2, a3, a4] (vI n1 :: vI n0 :: [s0]) mem = evc X (ev X m_X5_spot 0 [vI n0, vI n1] [] mem) m_X5_comesOne 80 [a0, a1, a2, a3, a4] [s0] := ke_callS (m' := m_X5_spot) (as := [vI n0, vI n1]) (n := 2) (rest := [s0]) dX5_comesOne_77 rfl (by decide) rfl rfl rfl rfl rfl (Nat.le_of_ble_eq_true rfl) (Nat.le_of_ble_eq_true rfl) rfl
theorem eX5_comesOne_80 : ev X m_X5_comesOne 80 [a0, a1, a2, a3, a4] st mem = ev X m_X5_comesOne 81 [a0, a1, a2, a3, a4] (vI 0 :: st) mem := ke_iconst (by decide) dX5_comesOne_80
theorem eX5_comesOne_81 : ev X m_X5_comesOne 81 [a0, a1, a2, a3, a4] (vI y :: vI x :: vR r :: st) mem = evm X (aput mem r x y) m_X5_comesOne 82 [a0, a1, a2, a3, a4] st := ke_iastore dX5_comesOne_81
theorem eX5_comesOne_82 : ev X m_X5_comesOne 82 [vR r, a1, a2, a3, a4] st mem = ev X m_X5_comesOne 83 [vR r, a1, a2, a3, a4] (vR r :: st) mem := ke_aload_n rfl dX5_comesOne_82
theorem eX5_comesOne_83 : ev X m_X5_comesOne 83 [a0, a1, a2, a3, a4] (vR r :: st) mem = evb X (fget mem r 5 5) m_X5_comesOne 86 [a0, a1, a2, a3, a4] st mem := ke_getf rfl dX5_comesOne_83
theorem eX5_comesOne_86 : ev X m_X5_comesOne 86 [vR r, a1, a2, a3, a4] st mem = ev X m_X5_comesOne 87 [vR r, a1, a2, a3, a4] (vR r :: st) mem := ke_aload_n rfl dX5_comesOne_86
theorem eX5_comesOne_87 : ev X m_X5_comesOne 87 [a0, a1, a2, a3, a4] (vR r :: st) mem = evb X (fget mem r 5 11) m_X5_comesOne 90 [a0, a1, a2, a3, a4] st mem := ke_getf rfl dX5_comesOne_87
theorem eX5_comesOne_90 : ev X m_X5_comesOne 90 [a0, a1, a2, a3, vI x] st mem = ev X m_X5_comesOne 92 [a0, a1, a2, a3, vI x] (vI x :: st) mem := ke_iload rfl dX5_comesOne_90
theorem eX5_comesOne_92 : ev X m_X5_comesOne 92 [a0, a1, a2, a3, a4] (vI n1 :: vI n0 :: [s0]) mem = evc X (ev X m_X5_spot 0 [vI n0, vI n1] [] mem) m_X5_comesOne 95 [a0, a1, a2, a3, a4] [s0] := ke_callS (m' := m_X5_spot) (as := [vI n0, vI n1]) (n := 2) (rest := [s0]) dX5_comesOne_92 rfl (by decide) rfl rfl rfl rfl rfl (Nat.le_of_ble_eq_true rfl) (Nat.le_of_ble_eq_true rfl) rfl
theorem eX5_comesOne_95 : ev X m_X5_comesOne 95 [a0, a1, a2, a3, a4] st mem = ev X m_X5_comesOne 96 [a0, a1, a2, a3, a4] (vI 0 :: st) mem := ke_iconst (by decide) dX5_comesOne_95
theorem eX5_comesOne_96 : ev X m_X5_comesOne 96 [a0, a1, a2, a3, a4] (vI y :: vI x :: vR r :: st) mem = evm X (aput mem r x y) m_X5_comesOne 97 [a0, a1, a2, a3, a4] st := ke_iastore dX5_comesOne_96
theorem eX5_comesOne_97 : ev X m_X5_comesOne 97 [a0, a1, a2, a3, vI x] st mem = ev X m_X5_comesOne 100 [a0, a1, a2, a3, vI (w32 (x + 1))] st mem := ke_iinc rfl (Nat.le_of_ble_eq_true rfl) rfl dX5_comesOne_97
theorem eX5_comesOne_100 : ev X m_X5_comesOne 100 [a0, a1, a2, a3, a4] st mem = ev X m_X5_comesOne 60 [a0, a1, a2, a3, a4] st mem := ke_goto dX5_comesOne_100 rfl
theorem eX5_comesOne_103 : ev X m_X5_comesOne 103 [vR r, a1, a2, a3, a4] st mem = ev X m_X5_comesOne 104 [vR r, a1, a2, a3, a4] (vR r :: st) mem := ke_aload_n rfl dX5_comesOne_103
theorem eX5_comesOne_104 : ev X m_X5_comesOne 104 [a0, a1, a2, a3, a4] (vI x :: st) mem = ev X m_X5_comesOne 105 [a0, a1, a2, a3, a4] (vI x :: vI x :: st) mem := ke_dupI dX5_comesOne_104
theorem eX5_comesOne_104r : ev X m_X5_comesOne 104 [a0, a1, a2, a3, a4] (vR r :: st) mem = ev X m_X5_comesOne 105 [a0, a1, a2, a3, a4] (vR r :: vR r :: st) mem := ke_dupR dX5_comesOne_104
theorem eX5_comesOne_105 : ev X m_X5_comesOne 105 [a0, a1, a2, a3, a4] (vR r :: st) mem = evb X (fget mem r 5 11) m_X5_comesOne 108 [a0, a1, a2, a3, a4] st mem := ke_getf rfl dX5_comesOne_105
theorem eX5_comesOne_108 : ev X m_X5_comesOne 108 [a0, a1, a2, a3, a4] st mem = ev X m_X5_comesOne 109 [a0, a1, a2, a3, a4] (vI 1 :: st) mem := ke_iconst (by decide) dX5_comesOne_108
theorem eX5_comesOne_109 : ev X m_X5_comesOne 109 [a0, a1, a2, a3, a4] (vI y :: vI x :: st) mem = ev X m_X5_comesOne 110 [a0, a1, a2, a3, a4] (vI (w32 (x + y)) :: st) mem := ke_iadd dX5_comesOne_109
theorem eX5_comesOne_110 : ev X m_X5_comesOne 110 [a0, a1, a2, a3, a4] (vI x :: vR r :: st) mem = evm X (fput mem r 5 11 (vI x)) m_X5_comesOne 113 [a0, a1, a2, a3, a4] st := ke_putf rfl (by decide +kernel) dX5_comesOne_110
theorem eX5_comesOne_113 : ev X m_X5_comesOne 113 [a0, a1, a2, a3, a4] st mem = ev X m_X5_comesOne 114 [a0, a1, a2, a3, a4] (vI 1 :: st) mem := ke_iconst (by decide) dX5_comesOne_113
theorem eX5_comesOne_114a : ev X m_X5_comesOne 114 [a0, a1, a2, a3, a4] [vI 1] mem = some (some (vI 1), mem) := ke_zreturn dX5_comesOne_114 rfl rfl
theorem eX5_comesOne_114b : ev X m_X5_comesOne 114 [a0, a1, a2, a3, a4] [vI 0] mem = some (some (vI 0), mem) := ke_zreturn dX5_comesOne_114 rfl rfl
theorem eX5_comesOne_114c {c : Prop} [Decidable c] : ev X m_X5_comesOne 114 [a0, a1, a2, a3, a4] [vI (if c then 1 else 0)] mem = some (some (vI (if c then 1 else 0)), mem) := ke_zreturn dX5_comesOne_114 rfl (by split <;> rfl)
theorem eX5_spot_0 : ev X m_X5_spot 0 [a0, a1] st mem = ev X m_X5_spot 2 [a0, a1] (vI 6 :: st) mem := ke_bipush (by decide) dX5_spot_0
theorem eX5_spot_2 : ev X m_X5_spot 2 [vI x, a1] st mem = ev X m_X5_spot 3 [vI x, a1] (vI x :: st) mem := ke_iload_n rfl dX5_spot_2
theorem eX5_spot_3 : ev X m_X5_spot 3 [a0, a1] (vI y :: vI x :: st) mem = ev X m_X5_spot 4 [a0, a1] (vI (w32 (x * y)) :: st) mem := ke_imul dX5_spot_3
theorem eX5_spot_4 : ev X m_X5_spot 4 [a0, vI x] st mem = ev X m_X5_spot 5 [a0, vI x] (vI x :: st) mem := ke_iload_n rfl dX5_spot_4
theorem eX5_spot_5 : ev X m_X5_spot 5 [a0, a1] (vI y :: vI x :: st) mem = ev X m_X5_spot 6 [a0, a1] (vI (w32 (x + y)) :: st) mem := ke_iadd dX5_spot_5
theorem eX5_spot_6 : ev X m_X5_spot 6 [a0, a1] [vI x] mem = some (some (vI x), mem) := ke_ireturn dX5_spot_6 rfl
theorem eX5_comesParcel_0 : ev X m_X5_comesParcel 0 [vR r, a1, a2] st mem = ev X m_X5_comesParcel 1 [vR r, a1, a2] (vR r :: st) mem := ke_aload_n rfl dX5_comesParcel_0
theorem eX5_comesParcel_1 : ev X m_X5_comesParcel 1 [a0, vI x, a2] st mem = ev X m_X5_comesParcel 2 [a0, vI x, a2] (vI x :: st) mem := ke_iload_n rfl dX5_comesParcel_1
theorem eX5_comesParcel_2 : ev X m_X5_comesParcel 2 [a0, a1, a2] (vI n0 :: vR r :: []) mem = evc X (gR mem r 5 (ev X m_X5_isOne 0 [vR r, vI n0] [] mem)) m_X5_comesParcel 5 [a0, a1, a2] [] := ke_callV (m' := m_X5_isOne) (as := [vI n0]) (n := 1) (rest := []) dX5_comesParcel_2 rfl rfl rfl rfl rfl rfl (Nat.le_of_ble_eq_true rfl) (Nat.le_of_ble_eq_true rfl) (Nat.le_of_ble_eq_true rfl) rfl
theorem eX5_comesParcel_5 : ev X m_X5_comesParcel 5 [a0, a1, a2] (vI x :: st) mem = if x = 0 then ev X m_X5_comesParcel 17 [a0, a1, a2] st mem else ev X m_X5_comesParcel 8 [a0, a1, a2] st mem := ke_if_eq dX5_comesParcel_5 rfl
theorem eX5_comesParcel_8 : ev X m_X5_comesParcel 8 [vR r, a1, a2] st mem = ev X m_X5_comesParcel 9 [vR r, a1, a2] (vR r :: st) mem := ke_aload_n rfl dX5_comesParcel_8
theorem eX5_comesParcel_9 : ev X m_X5_comesParcel 9 [a0, a1, a2] (vR r :: st) mem = evb X (fget mem r 5 12) m_X5_comesParcel 12 [a0, a1, a2] st mem := ke_getf rfl dX5_comesParcel_9
theorem eX5_comesParcel_12 : ev X m_X5_comesParcel 12 [a0, a1, a2] st mem = ev X m_X5_comesParcel 14 [a0, a1, a2] (vI 8 :: st) mem := ke_bipush (by decide) dX5_comesParcel_12
theorem eX5_comesParcel_14 : ev X m_X5_comesParcel 14 [a0, a1, a2] (vI y :: vI x :: st) mem = if x = y then ev X m_X5_comesParcel 17 [a0, a1, a2] st mem else ev X m_X5_comesParcel 19 [a0, a1, a2] st mem := ke_icmp_ne dX5_comesParcel_14 rfl
theorem eX5_comesParcel_17 : ev X m_X5_comesParcel 17 [a0, a1, a2] st mem = ev X m_X5_comesParcel 18 [a0, a1, a2] (vI 0 :: st) mem := ke_iconst (by decide) dX5_comesParcel_17
theorem eX5_comesParcel_18a : ev X m_X5_comesParcel 18 [a0, a1, a2] [vI 1] mem = some (some (vI 1), mem) := ke_zreturn dX5_comesParcel_18 rfl rfl
theorem eX5_comesParcel_18b : ev X m_X5_comesParcel 18 [a0, a1, a2] [vI 0] mem = some (some (vI 0), mem) := ke_zreturn dX5_comesParcel_18 rfl rfl
theorem eX5_comesParcel_18c {c : Prop} [Decidable c] : ev X m_X5_comesParcel 18 [a0, a1, a2] [vI (if c then 1 else 0)] mem = some (some (vI (if c then 1 else 0)), mem) := ke_zreturn dX5_comesParcel_18 rfl (by split <;> rfl)
theorem eX5_comesParcel_19 : ev X m_X5_comesParcel 19 [vR r, a1, a2] st mem = ev X m_X5_comesParcel 20 [vR r, a1, a2] (vR r :: st) mem := ke_aload_n rfl dX5_comesParcel_19
theorem eX5_comesParcel_20 : ev X m_X5_comesParcel 20 [a0, vI x, a2] st mem = ev X m_X5_comesParcel 21 [a0, vI x, a2] (vI x :: st) mem := ke_iload_n rfl dX5_comesParcel_20
theorem eX5_comesParcel_21 : ev X m_X5_comesParcel 21 [a0, a1, vI x] st mem = ev X m_X5_comesParcel 22 [a0, a1, vI x] (vI x :: st) mem := ke_iload_n rfl dX5_comesParcel_21
theorem eX5_comesParcel_22 : ev X m_X5_comesParcel 22 [a0, a1, a2] (vI n1 :: vI n0 :: vR r :: []) mem = evc X (gR mem r 5 (ev X m_X5_adds 0 [vR r, vI n0, vI n1] [] mem)) m_X5_comesParcel 25 [a0, a1, a2] [] := ke_callV (m' := m_X5_adds) (as := [vI n0, vI n1]) (n := 2) (rest := []) dX5_comesParcel_22 rfl rfl rfl rfl rfl rfl (Nat.le_of_ble_eq_true rfl) (Nat.le_of_ble_eq_true rfl) (Nat.le_of_ble_eq_true rfl) rfl
theorem eX5_comesParcel_25 : ev X m_X5_comesParcel 25 [a0, a1, a2] st mem = ev X m_X5_comesParcel 26 [a0, a1, a2] (vI 1 :: st) mem := ke_iconst (by decide) dX5_comesParcel_25
theorem eX5_comesParcel_26a : ev X m_X5_comesParcel 26 [a0, a1, a2] [vI 1] mem = some (some (vI 1), mem) := ke_zreturn dX5_comesParcel_26 rfl rfl
theorem eX5_comesParcel_26b : ev X m_X5_comesParcel 26 [a0, a1, a2] [vI 0] mem = some (some (vI 0), mem) := ke_zreturn dX5_comesParcel_26 rfl rfl
theorem eX5_comesParcel_26c {c : Prop} [Decidable c] : ev X m_X5_comesParcel 26 [a0, a1, a2] [vI (if c then 1 else 0)] mem = some (some (vI (if c then 1 else 0)), mem) := ke_zreturn dX5_comesParcel_26 rfl (by split <;> rfl)
theorem eX5_isOne_0 : ev X m_X5_isOne 0 [a0, vI x] st mem = ev X m_X5_isOne 1 [a0, vI x] (vI x :: st) mem := ke_iload_n rfl dX5_isOne_0
theorem eX5_isOne_1 : ev X m_X5_isOne 1 [a0, a1] (vI x :: st) mem = if x < 0 then ev X m_X5_isOne 16 [a0, a1] st mem else ev X m_X5_isOne 4 [a0, a1] st mem := ke_if_lt dX5_isOne_1 rfl
theorem eX5_isOne_4 : ev X m_X5_isOne 4 [a0, vI x] st mem = ev X m_X5_isOne 5 [a0, vI x] (vI x :: st) mem := ke_iload_n rfl dX5_isOne_4
theorem eX5_isOne_5 : ev X m_X5_isOne 5 [vR r, a1] st mem = ev X m_X5_isOne 6 [vR r, a1] (vR r :: st) mem := ke_aload_n rfl dX5_isOne_5
theorem eX5_isOne_6 : ev X m_X5_isOne 6 [a0, a1] (vR r :: st) mem = evb X (fget mem r 5 11) m_X5_isOne 9 [a0, a1] st mem := ke_getf rfl dX5_isOne_6
theorem eX5_isOne_9 : ev X m_X5_isOne 9 [a0, a1] (vI y :: vI x :: st) mem = if x < y then ev X m_X5_isOne 12 [a0, a1] st mem else ev X m_X5_isOne 16 [a0, a1] st mem := ke_icmp_ge dX5_isOne_9 rfl
theorem eX5_isOne_12 : ev X m_X5_isOne 12 [a0, a1] st mem = ev X m_X5_isOne 13 [a0, a1] (vI 1 :: st) mem := ke_iconst (by decide) dX5_isOne_12
theorem eX5_isOne_13 : ev X m_X5_isOne 13 [a0, a1] st mem = ev X m_X5_isOne 17 [a0, a1] st mem := ke_goto dX5_isOne_13 rfl
theorem eX5_isOne_16 : ev X m_X5_isOne 16 [a0, a1] st mem = ev X m_X5_isOne 17 [a0, a1] (vI 0 :: st) mem := ke_iconst (by decide) dX5_isOne_16
theorem eX5_isOne_17a : ev X m_X5_isOne 17 [a0, a1] [vI 1] mem = some (some (vI 1), mem) := ke_zreturn dX5_isOne_17 rfl rfl
theorem eX5_isOne_17b : ev X m_X5_isOne 17 [a0, a1] [vI 0] mem = some (some (vI 0), mem) := ke_zreturn dX5_isOne_17 rfl rfl
theorem eX5_isOne_17c {c : Prop} [Decidable c] : ev X m_X5_isOne 17 [a0, a1] [vI (if c then 1 else 0)] mem = some (some (vI (if c then 1 else 0)), mem) := ke_zreturn dX5_isOne_17 rfl (by split <;> rfl)
theorem eX5_adds_0 : ev X m_X5_adds 0 [vR r, a1, a2] st mem = ev X m_X5_adds 1 [vR r, a1, a2] (vR r :: st) mem := ke_aload_n rfl dX5_adds_0
theorem eX5_adds_1 : ev X m_X5_adds 1 [a0, a1, a2] (vR r :: st) mem = evb X (fget mem r 5 6) m_X5_adds 4 [a0, a1, a2] st mem := ke_getf rfl dX5_adds_1
theorem eX5_adds_4 : ev X m_X5_adds 4 [vR r, a1, a2] st mem = ev X m_X5_adds 5 [vR r, a1, a2] (vR r :: st) mem := ke_aload_n rfl dX5_adds_4
theorem eX5_adds_5 : ev X m_X5_adds 5 [a0, a1, a2] (vR r :: st) mem = evb X (fget mem r 5 12) m_X5_adds 8 [a0, a1, a2] st mem := ke_getf rfl dX5_adds_5
theorem eX5_adds_8 : ev X m_X5_adds 8 [a0, vI x, a2] st mem = ev X m_X5_adds 9 [a0, vI x, a2] (vI x :: st) mem := ke_iload_n rfl dX5_adds_8
theorem eX5_adds_9 : ev X m_X5_adds 9 [a0, a1, a2] (vI y :: vI x :: vR r :: st) mem = evm X (aput mem r x y) m_X5_adds 10 [a0, a1, a2] st := ke_iastore dX5_adds_9
theorem eX5_adds_10 : ev X m_X5_adds 10 [vR r, a1, a2] st mem = ev X m_X5_adds 11 [vR r, a1, a2] (vR r :: st) mem := ke_aload_n rfl dX5_adds_10
theorem eX5_adds_11 : ev X m_X5_adds 11 [a0, a1, a2] (vR r :: st) mem = evb X (fget mem r 5 7) m_X5_adds 14 [a0, a1, a2] st mem := ke_getf rfl dX5_adds_11
theorem eX5_adds_14 : ev X m_X5_adds 14 [vR r, a1, a2] st mem = ev X m_X5_adds 15 [vR r, a1, a2] (vR r :: st) mem := ke_aload_n rfl dX5_adds_14
theorem eX5_adds_15 : ev X m_X5_adds 15 [a0, a1, a2] (vR r :: st) mem = evb X (fget mem r 5 12) m_X5_adds 18 [a0, a1, a2] st mem := ke_getf rfl dX5_adds_15
theorem eX5_adds_18 : ev X m_X5_adds 18 [a0, a1, vI x] st mem = ev X m_X5_adds 19 [a0, a1, vI x] (vI x :: st) mem := ke_iload_n rfl dX5_adds_18
theorem eX5_adds_19 : ev X m_X5_adds 19 [a0, a1, a2] (vI y :: vI x :: vR r :: st) mem = evm X (aput mem r x y) m_X5_adds 20 [a0, a1, a2] st := ke_iastore dX5_adds_19
theorem eX5_adds_20 : ev X m_X5_adds 20 [vR r, a1, a2] st mem = ev X m_X5_adds 21 [vR r, a1, a2] (vR r :: st) mem := ke_aload_n rfl dX5_adds_20
theorem eX5_adds_21 : ev X m_X5_adds 21 [a0, a1, a2] (vR r :: st) mem = evb X (fget mem r 5 8) m_X5_adds 24 [a0, a1, a2] st mem := ke_getf rfl dX5_adds_21
theorem eX5_adds_24 : ev X m_X5_adds 24 [vR r, a1, a2] st mem = ev X m_X5_adds 25 [vR r, a1, a2] (vR r :: st) mem := ke_aload_n rfl dX5_adds_24
theorem eX5_adds_25 : ev X m_X5_adds 25 [a0, a1, a2] (vR r :: st) mem = evb X (fget mem r 5 12) m_X5_adds 28 [a0, a1, a2] st mem := ke_getf rfl dX5_adds_25
theorem eX5_adds_28 : ev X m_X5_adds 28 [a0, a1, a2] st mem = ev X m_X5_adds 29 [a0, a1, a2] (vI 0 :: st) mem := ke_iconst (by decide) dX5_adds_28
theorem eX5_adds_29 : ev X m_X5_adds 29 [a0, a1, a2] (vI y :: vI x :: vR r :: st) mem = evm X (aput mem r x y) m_X5_adds 30 [a0, a1, a2] st := ke_iastore dX5_adds_29
theorem eX5_adds_30 : ev X m_X5_adds 30 [vR r, a1, a2] st mem = ev X m_X5_adds 31 [vR r, a1, a2] (vR r :: st) mem := ke_aload_n rfl dX5_adds_30
theorem eX5_adds_31 : ev X m_X5_adds 31 [a0, a1, a2] (vR r :: st) mem = evb X (fget mem r 5 9) m_X5_adds 34 [a0, a1, a2] st mem := ke_getf rfl dX5_adds_31
theorem eX5_adds_34 : ev X m_X5_adds 34 [vR r, a1, a2] st mem = ev X m_X5_adds 35 [vR r, a1, a2] (vR r :: st) mem := ke_aload_n rfl dX5_adds_34
theorem eX5_adds_35 : ev X m_X5_adds 35 [a0, a1, a2] (vR r :: st) mem = evb X (fget mem r 5 12) m_X5_adds 38 [a0, a1, a2] st mem := ke_getf rfl dX5_adds_35
theorem eX5_adds_38 : ev X m_X5_adds 38 [a0, a1, a2] st mem = ev X m_X5_adds 39 [a0, a1, a2] (vI 0 :: st) mem := ke_iconst (by decide) dX5_adds_38
theorem eX5_adds_39 : ev X m_X5_adds 39 [a0, a1, a2] (vI y :: vI x :: vR r :: st) mem = evm X (aput mem r x y) m_X5_adds 40 [a0, a1, a2] st := ke_iastore dX5_adds_39
theorem eX5_adds_40 : ev X m_X5_adds 40 [vR r, a1, a2] st mem = ev X m_X5_adds 41 [vR r, a1, a2] (vR r :: st) mem := ke_aload_n rfl dX5_adds_40
theorem eX5_adds_41 : ev X m_X5_adds 41 [a0, a1, a2] (vR r :: st) mem = evb X (fget mem r 5 10) m_X5_adds 44 [a0, a1, a2] st mem := ke_getf rfl dX5_adds_41
theorem eX5_adds_44 : ev X m_X5_adds 44 [vR r, a1, a2] st mem = ev X m_X5_adds 45 [vR r, a1, a2] (vR r :: st) mem := ke_aload_n rfl dX5_adds_44
theorem eX5_adds_45 : ev X m_X5_adds 45 [a0, a1, a2] (vR r :: st) mem = evb X (fget mem r 5 12) m_X5_adds 48 [a0, a1, a2] st mem := ke_getf rfl dX5_adds_45
theorem eX5_adds_48 : ev X m_X5_adds 48 [a0, a1, a2] st mem = ev X m_X5_adds 50 [a0, a1, a2] (vI (-9) :: st) mem := ke_bipush (by decide) dX5_adds_48
theorem eX5_adds_50 : ev X m_X5_adds 50 [a0, a1, a2] (vI y :: vI x :: vR r :: st) mem = evm X (aput mem r x y) m_X5_adds 51 [a0, a1, a2] st := ke_iastore dX5_adds_50
theorem eX5_adds_51 : ev X m_X5_adds 51 [vR r, a1, a2] st mem = ev X m_X5_adds 52 [vR r, a1, a2] (vR r :: st) mem := ke_aload_n rfl dX5_adds_51
theorem eX5_adds_52 : ev X m_X5_adds 52 [a0, a1, a2] (vI x :: st) mem = ev X m_X5_adds 53 [a0, a1, a2] (vI x :: vI x :: st) mem := ke_dupI dX5_adds_52
theorem eX5_adds_52r : ev X m_X5_adds 52 [a0, a1, a2] (vR r :: st) mem = ev X m_X5_adds 53 [a0, a1, a2] (vR r :: vR r :: st) mem := ke_dupR dX5_adds_52
theorem eX5_adds_53 : ev X m_X5_adds 53 [a0, a1, a2] (vR r :: st) mem = evb X (fget mem r 5 12) m_X5_adds 56 [a0, a1, a2] st mem := ke_getf rfl dX5_adds_53
theorem eX5_adds_56 : ev X m_X5_adds 56 [a0, a1, a2] st mem = ev X m_X5_adds 57 [a0, a1, a2] (vI 1 :: st) mem := ke_iconst (by decide) dX5_adds_56
theorem eX5_adds_57 : ev X m_X5_adds 57 [a0, a1, a2] (vI y :: vI x :: st) mem = ev X m_X5_adds 58 [a0, a1, a2] (vI (w32 (x + y)) :: st) mem := ke_iadd dX5_adds_57
theorem eX5_adds_58 : ev X m_X5_adds 58 [a0, a1, a2] (vI x :: vR r :: st) mem = evm X (fput mem r 5 12 (vI x)) m_X5_adds 61 [a0, a1, a2] st := ke_putf rfl (by decide +kernel) dX5_adds_58
theorem eX5_adds_61 : ev X m_X5_adds 61 [a0, a1, a2] [] mem = some (none, mem) := ke_return dX5_adds_61 rfl
theorem eX5_comesDays_0 : ev X m_X5_comesDays 0 [a0, vI x] st mem = ev X m_X5_comesDays 1 [a0, vI x] (vI x :: st) mem := ke_iload_n rfl dX5_comesDays_0
theorem eX5_comesDays_1 : ev X m_X5_comesDays 1 [a0, a1] st mem = ev X m_X5_comesDays 2 [a0, a1] (vI 1 :: st) mem := ke_iconst (by decide) dX5_comesDays_1
theorem eX5_comesDays_2 : ev X m_X5_comesDays 2 [a0, a1] st mem = ev X m_X5_comesDays 4 [a0, a1] (vI 60 :: st) mem := ke_bipush (by decide) dX5_comesDays_2
theorem eX5_comesDays_4 : ev X m_X5_comesDays 4 [a0, a1] (vI n2 :: vI n1 :: vI n0 :: []) mem = evc X (ev X m_X5_isIn 0 [vI n0, vI n1, vI n2] [] mem) m_X5_comesDays 7 [a0, a1] [] := ke_callS (m' := m_X5_isIn) (as := [vI n0, vI n1, vI n2]) (n := 3) (rest := []) dX5_comesDays_4 rfl (by decide) rfl rfl rfl rfl rfl (Nat.le_of_ble_eq_true rfl) (Nat.le_of_ble_eq_true rfl) rfl
theorem eX5_comesDays_7 : ev X m_X5_comesDays 7 [a0, a1] (vI x :: st) mem = if x = 0 then ev X m_X5_comesDays 22 [a0, a1] st mem else ev X m_X5_comesDays 10 [a0, a1] st mem := ke_if_eq dX5_comesDays_7 rfl
theorem eX5_comesDays_10 : ev X m_X5_comesDays 10 [vR r, a1] st mem = ev X m_X5_comesDays 11 [vR r, a1] (vR r :: st) mem := ke_aload_n rfl dX5_comesDays_10
theorem eX5_comesDays_11 : ev X m_X5_comesDays 11 [a0, a1] (vR r :: st) mem = evb X (fget mem r 5 13) m_X5_comesDays 14 [a0, a1] st mem := ke_getf rfl dX5_comesDays_11
theorem eX5_comesDays_14 : ev X m_X5_comesDays 14 [a0, vI x] st mem = ev X m_X5_comesDays 15 [a0, vI x] (vI x :: st) mem := ke_iload_n rfl dX5_comesDays_14
theorem eX5_comesDays_15 : ev X m_X5_comesDays 15 [a0, a1] (vI y :: vI x :: st) mem = ev X m_X5_comesDays 16 [a0, a1] (vI (w32 (x + y)) :: st) mem := ke_iadd dX5_comesDays_15
theorem eX5_comesDays_16 : ev X m_X5_comesDays 16 [a0, a1] st mem = ev X m_X5_comesDays 19 [a0, a1] (vI 999 :: st) mem := ke_sipush (by decide) dX5_comesDays_16
theorem eX5_comesDays_19 : ev X m_X5_comesDays 19 [a0, a1] (vI y :: vI x :: st) mem = if y < x then ev X m_X5_comesDays 22 [a0, a1] st mem else ev X m_X5_comesDays 24 [a0, a1] st mem := ke_icmp_le dX5_comesDays_19 rfl
theorem eX5_comesDays_22 : ev X m_X5_comesDays 22 [a0, a1] st mem = ev X m_X5_comesDays 23 [a0, a1] (vI 0 :: st) mem := ke_iconst (by decide) dX5_comesDays_22
theorem eX5_comesDays_23a : ev X m_X5_comesDays 23 [a0, a1] [vI 1] mem = some (some (vI 1), mem) := ke_zreturn dX5_comesDays_23 rfl rfl
theorem eX5_comesDays_23b : ev X m_X5_comesDays 23 [a0, a1] [vI 0] mem = some (some (vI 0), mem) := ke_zreturn dX5_comesDays_23 rfl rfl
theorem eX5_comesDays_23c {c : Prop} [Decidable c] : ev X m_X5_comesDays 23 [a0, a1] [vI (if c then 1 else 0)] mem = some (some (vI (if c then 1 else 0)), mem) := ke_zreturn dX5_comesDays_23 rfl (by split <;> rfl)
theorem eX5_comesDays_24 : ev X m_X5_comesDays 24 [vR r, a1] st mem = ev X m_X5_comesDays 25 [vR r, a1] (vR r :: st) mem := ke_aload_n rfl dX5_comesDays_24
theorem eX5_comesDays_25 : ev X m_X5_comesDays 25 [a0, vI x] st mem = ev X m_X5_comesDays 26 [a0, vI x] (vI x :: st) mem := ke_iload_n rfl dX5_comesDays_25
theorem eX5_comesDays_26 : ev X m_X5_comesDays 26 [a0, a1] (vI n0 :: vR r :: []) mem = evc X (gR mem r 5 (ev X m_X5_goes 0 [vR r, vI n0, vS] [] mem)) m_X5_comesDays 29 [a0, a1] [] := ke_callV (m' := m_X5_goes) (as := [vI n0]) (n := 1) (rest := []) dX5_comesDays_26 rfl rfl rfl rfl rfl rfl (Nat.le_of_ble_eq_true rfl) (Nat.le_of_ble_eq_true rfl) (Nat.le_of_ble_eq_true rfl) rfl
theorem eX5_comesDays_29 : ev X m_X5_comesDays 29 [a0, a1] st mem = ev X m_X5_comesDays 30 [a0, a1] (vI 1 :: st) mem := ke_iconst (by decide) dX5_comesDays_29
theorem eX5_comesDays_30a : ev X m_X5_comesDays 30 [a0, a1] [vI 1] mem = some (some (vI 1), mem) := ke_zreturn dX5_comesDays_30 rfl rfl
theorem eX5_comesDays_30b : ev X m_X5_comesDays 30 [a0, a1] [vI 0] mem = some (some (vI 0), mem) := ke_zreturn dX5_comesDays_30 rfl rfl
theorem eX5_comesDays_30c {c : Prop} [Decidable c] : ev X m_X5_comesDays 30 [a0, a1] [vI (if c then 1 else 0)] mem = some (some (vI (if c then 1 else 0)), mem) := ke_zreturn dX5_comesDays_30 rfl (by split <;> rfl)
theorem eX5_goes_0 : ev X m_X5_goes 0 [a0, a1, a2] st mem = ev X m_X5_goes 1 [a0, a1, a2] (vI 0 :: st) mem := ke_iconst (by decide) dX5_goes_0
theorem eX5_goes_1 : ev X m_X5_goes 1 [a0, a1, a2] (vI x :: st) mem = ev X m_X5_goes 2 [a0, a1, vI x] st mem := ke_istore_n (Nat.le_of_ble_eq_true rfl) rfl dX5_goes_1
theorem eX5_goes_2 : ev X m_X5_goes 2 [a0, a1, vI x] st mem = ev X m_X5_goes 3 [a0, a1, vI x] (vI x :: st) mem := ke_iload_n rfl dX5_goes_2
theorem eX5_goes_3 : ev X m_X5_goes 3 [a0, vI x, a2] st mem = ev X m_X5_goes 4 [a0, vI x, a2] (vI x :: st) mem := ke_iload_n rfl dX5_goes_3
theorem eX5_goes_4 : ev X m_X5_goes 4 [a0, a1, a2] (vI y :: vI x :: st) mem = if x < y then ev X m_X5_goes 7 [a0, a1, a2] st mem else ev X m_X5_goes 18 [a0, a1, a2] st mem := ke_icmp_ge dX5_goes_4 rfl
theorem eX5_goes_7 : ev X m_X5_goes 7 [vR r, a1, a2] st mem = ev X m_X5_goes 8 [vR r, a1, a2] (vR r :: st) mem := ke_aload_n rfl dX5_goes_7
theorem eX5_goes_8 : ev X m_X5_goes 8 [a0, a1, a2] st mem = ev X m_X5_goes 9 [a0, a1, a2] (vI 0 :: st) mem := ke_iconst (by decide) dX5_goes_8
theorem eX5_goes_9 : ev X m_X5_goes 9 [a0, a1, a2] (vI n0 :: vR r :: []) mem = evc X (gR mem r 5 (ev X m_X5_goesDay 0 [vR r, vI n0, vS] [] mem)) m_X5_goes 12 [a0, a1, a2] [] := ke_callV (m' := m_X5_goesDay) (as := [vI n0]) (n := 1) (rest := []) dX5_goes_9 rfl rfl rfl rfl rfl rfl (Nat.le_of_ble_eq_true rfl) (Nat.le_of_ble_eq_true rfl) (Nat.le_of_ble_eq_true rfl) rfl
theorem eX5_goes_12 : ev X m_X5_goes 12 [a0, a1, vI x] st mem = ev X m_X5_goes 15 [a0, a1, vI (w32 (x + 1))] st mem := ke_iinc rfl (Nat.le_of_ble_eq_true rfl) rfl dX5_goes_12
theorem eX5_goes_15 : ev X m_X5_goes 15 [a0, a1, a2] st mem = ev X m_X5_goes 2 [a0, a1, a2] st mem := ke_goto dX5_goes_15 rfl
theorem eX5_goes_18 : ev X m_X5_goes 18 [a0, a1, a2] [] mem = some (none, mem) := ke_return dX5_goes_18 rfl
theorem eX5_goesDay_0 : ev X m_X5_goesDay 0 [vR r, a1, a2] st mem = ev X m_X5_goesDay 1 [vR r, a1, a2] (vR r :: st) mem := ke_aload_n rfl dX5_goesDay_0
theorem eX5_goesDay_1 : ev X m_X5_goesDay 1 [a0, a1, a2] (vI x :: st) mem = ev X m_X5_goesDay 2 [a0, a1, a2] (vI x :: vI x :: st) mem := ke_dupI dX5_goesDay_1
theorem eX5_goesDay_1r : ev X m_X5_goesDay 1 [a0, a1, a2] (vR r :: st) mem = ev X m_X5_goesDay 2 [a0, a1, a2] (vR r :: vR r :: st) mem := ke_dupR dX5_goesDay_1
theorem eX5_goesDay_2 : ev X m_X5_goesDay 2 [a0, a1, a2] (vR r :: st) mem = evb X (fget mem r 5 13) m_X5_goesDay 5 [a0, a1, a2] st mem := ke_getf rfl dX5_goesDay_2
theorem eX5_goesDay_5 : ev X m_X5_goesDay 5 [a0, a1, a2] st mem = ev X m_X5_goesDay 6 [a0, a1, a2] (vI 1 :: st) mem := ke_iconst (by decide) dX5_goesDay_5
theorem eX5_goesDay_6 : ev X m_X5_goesDay 6 [a0, a1, a2] (vI y :: vI x :: st) mem = ev X m_X5_goesDay 7 [a0, a1, a2] (vI (w32 (x + y)) :: st) mem := ke_iadd dX5_goesDay_6
theorem eX5_goesDay_7 : ev X m_X5_goesDay 7 [a0, a1, a2] (vI x :: vR r :: st) mem = evm X (fput mem r 5 13 (vI x)) m_X5_goesDay 10 [a0, a1, a2] st := ke_putf rfl (by decide +kernel) dX5_goesDay_7
theorem eX5_goesDay_10 : ev X m_X5_goesDay 10 [a0, a1, a2] st mem = ev X m_X5_goesDay 11 [a0, a1, a2] (vI 0 :: st) mem := ke_iconst (by decide) dX5_goesDay_10
theorem eX5_goesDay_11 : ev X m_X5_goesDay 11 [a0, a1, a2] (vI x :: st) mem = ev X m_X5_goesDay 12 [a0, a1, vI x] st mem := ke_istore_n (Nat.le_of_ble_eq_true rfl) rfl dX5_goesDay_11
theorem eX5_goesDay_12 : ev X m_X5_goesDay 12 [a0, a1, vI x] st mem = ev X m_X5_goesDay 13 [a0, a1, vI x] (vI x :: st) mem := ke_iload_n rfl dX5_goesDay_12
theorem eX5_goesDay_13 : ev X m_X5_goesDay 13 [vR r, a1, a2] st mem = ev X m_X5_goesDay 14 [vR r, a1, a2] (vR r :: st) mem := ke_aload_n rfl dX5_goesDay_13
theorem eX5_goesDay_14 : ev X m_X5_goesDay 14 [a0, a1, a2] (vR r :: st) mem = evb X (fget mem r 5 12) m_X5_goesDay 17 [a0, a1, a2] st mem := ke_getf rfl dX5_goesDay_14
theorem eX5_goesDay_17 : ev X m_X5_goesDay 17 [a0, a1, a2] (vI y :: vI x :: st) mem = if x < y then ev X m_X5_goesDay 20 [a0, a1, a2] st mem else ev X m_X5_goesDay 45 [a0, a1, a2] st mem := ke_icmp_ge dX5_goesDay_17 rfl
theorem eX5_goesDay_20 : ev X m_X5_goesDay 20 [a0, vI x, a2] st mem = ev X m_X5_goesDay 21 [a0, vI x, a2] (vI x :: st) mem := ke_iload_n rfl dX5_goesDay_20
theorem eX5_goesDay_21 : ev X m_X5_goesDay 21 [a0, a1, a2] (vI x :: st) mem = if x = 0 then ev X m_X5_goesDay 24 [a0, a1, a2] st mem else ev X m_X5_goesDay 45 [a0, a1, a2] st mem := ke_if_ne dX5_goesDay_21 rfl
theorem eX5_goesDay_24 : ev X m_X5_goesDay 24 [vR r, a1, a2] st mem = ev X m_X5_goesDay 25 [vR r, a1, a2] (vR r :: st) mem := ke_aload_n rfl dX5_goesDay_24
theorem eX5_goesDay_25 : ev X m_X5_goesDay 25 [a0, a1, a2] (vR r :: st) mem = evb X (fget mem r 5 8) m_X5_goesDay 28 [a0, a1, a2] st mem := ke_getf rfl dX5_goesDay_25
theorem eX5_goesDay_28 : ev X m_X5_goesDay 28 [a0, a1, vI x] st mem = ev X m_X5_goesDay 29 [a0, a1, vI x] (vI x :: st) mem := ke_iload_n rfl dX5_goesDay_28
theorem eX5_goesDay_29 : ev X m_X5_goesDay 29 [a0, a1, a2] (vI x :: vR r :: st) mem = evb X (aget mem r x) m_X5_goesDay 30 [a0, a1, a2] st mem := ke_iaload dX5_goesDay_29
theorem eX5_goesDay_30 : ev X m_X5_goesDay 30 [a0, a1, a2] st mem = ev X m_X5_goesDay 31 [a0, a1, a2] (vI 1 :: st) mem := ke_iconst (by decide) dX5_goesDay_30
theorem eX5_goesDay_31 : ev X m_X5_goesDay 31 [a0, a1, a2] (vI y :: vI x :: st) mem = if x = y then ev X m_X5_goesDay 34 [a0, a1, a2] st mem else ev X m_X5_goesDay 39 [a0, a1, a2] st mem := ke_icmp_ne dX5_goesDay_31 rfl
theorem eX5_goesDay_34 : ev X m_X5_goesDay 34 [vR r, a1, a2] st mem = ev X m_X5_goesDay 35 [vR r, a1, a2] (vR r :: st) mem := ke_aload_n rfl dX5_goesDay_34
theorem eX5_goesDay_35 : ev X m_X5_goesDay 35 [a0, a1, vI x] st mem = ev X m_X5_goesDay 36 [a0, a1, vI x] (vI x :: st) mem := ke_iload_n rfl dX5_goesDay_35
theorem eX5_goesDay_36 : ev X m_X5_goesDay 36 [a0, a1, a2] (vI n0 :: vR r :: []) mem = evc X (gR mem r 5 (ev X m_X5_comesNearer 0 [vR r, vI n0] [] mem)) m_X5_goesDay 39 [a0, a1, a2] [] := ke_callV (m' := m_X5_comesNearer) (as := [vI n0]) (n := 1) (rest := []) dX5_goesDay_36 rfl rfl rfl rfl rfl rfl (Nat.le_of_ble_eq_true rfl) (Nat.le_of_ble_eq_true rfl) (Nat.le_of_ble_eq_true rfl) rfl
theorem eX5_goesDay_39 : ev X m_X5_goesDay 39 [a0, a1, vI x] st mem = ev X m_X5_goesDay 42 [a0, a1, vI (w32 (x + 1))] st mem := ke_iinc rfl (Nat.le_of_ble_eq_true rfl) rfl dX5_goesDay_39
theorem eX5_goesDay_42 : ev X m_X5_goesDay 42 [a0, a1, a2] st mem = ev X m_X5_goesDay 12 [a0, a1, a2] st mem := ke_goto dX5_goesDay_42 rfl
theorem eX5_goesDay_45 : ev X m_X5_goesDay 45 [a0, a1, a2] st mem = ev X m_X5_goesDay 46 [a0, a1, a2] (vI 0 :: st) mem := ke_iconst (by decide) dX5_goesDay_45
theorem eX5_goesDay_46 : ev X m_X5_goesDay 46 [a0, a1, a2] (vI x :: st) mem = ev X m_X5_goesDay 47 [a0, a1, vI x] st mem := ke_istore_n (Nat.le_of_ble_eq_true rfl) rfl dX5_goesDay_46
theorem eX5_goesDay_47 : ev X m_X5_goesDay 47 [a0, a1, vI x] st mem = ev X m_X5_goesDay 48 [a0, a1, vI x] (vI x :: st) mem := ke_iload_n rfl dX5_goesDay_47
theorem eX5_goesDay_48 : ev X m_X5_goesDay 48 [vR r, a1, a2] st mem = ev X m_X5_goesDay 49 [vR r, a1, a2] (vR r :: st) mem := ke_aload_n rfl dX5_goesDay_48
theorem eX5_goesDay_49 : ev X m_X5_goesDay 49 [a0, a1, a2] (vR r :: st) mem = evb X (fget mem r 5 12) m_X5_goesDay 52 [a0, a1, a2] st mem := ke_getf rfl dX5_goesDay_49
theorem eX5_goesDay_52 : ev X m_X5_goesDay 52 [a0, a1, a2] (vI y :: vI x :: st) mem = if x < y then ev X m_X5_goesDay 55 [a0, a1, a2] st mem else ev X m_X5_goesDay 75 [a0, a1, a2] st mem := ke_icmp_ge dX5_goesDay_52 rfl
theorem eX5_goesDay_55 : ev X m_X5_goesDay 55 [vR r, a1, a2] st mem = ev X m_X5_goesDay 56 [vR r, a1, a2] (vR r :: st) mem := ke_aload_n rfl dX5_goesDay_55
theorem eX5_goesDay_56 : ev X m_X5_goesDay 56 [a0, a1, a2] (vR r :: st) mem = evb X (fget mem r 5 8) m_X5_goesDay 59 [a0, a1, a2] st mem := ke_getf rfl dX5_goesDay_56
theorem eX5_goesDay_59 : ev X m_X5_goesDay 59 [a0, a1, vI x] st mem = ev X m_X5_goesDay 60 [a0, a1, vI x] (vI x :: st) mem := ke_iload_n rfl dX5_goesDay_59
theorem eX5_goesDay_60 : ev X m_X5_goesDay 60 [a0, a1, a2] (vI x :: vR r :: st) mem = evb X (aget mem r x) m_X5_goesDay 61 [a0, a1, a2] st mem := ke_iaload dX5_goesDay_60
theorem eX5_goesDay_61 : ev X m_X5_goesDay 61 [a0, a1, a2] (vI x :: st) mem = if x = 0 then ev X m_X5_goesDay 64 [a0, a1, a2] st mem else ev X m_X5_goesDay 69 [a0, a1, a2] st mem := ke_if_ne dX5_goesDay_61 rfl
theorem eX5_goesDay_64 : ev X m_X5_goesDay 64 [vR r, a1, a2] st mem = ev X m_X5_goesDay 65 [vR r, a1, a2] (vR r :: st) mem := ke_aload_n rfl dX5_goesDay_64
theorem eX5_goesDay_65 : ev X m_X5_goesDay 65 [a0, a1, vI x] st mem = ev X m_X5_goesDay 66 [a0, a1, vI x] (vI x :: st) mem := ke_iload_n rfl dX5_goesDay_65
theorem eX5_goesDay_66 : ev X m_X5_goesDay 66 [a0, a1, a2] (vI n0 :: vR r :: []) mem = evc X (gR mem r 5 (ev X m_X5_isTaken 0 [vR r, vI n0, vS] [] mem)) m_X5_goesDay 69 [a0, a1, a2] [] := ke_callV (m' := m_X5_isTaken) (as := [vI n0]) (n := 1) (rest := []) dX5_goesDay_66 rfl rfl rfl rfl rfl rfl (Nat.le_of_ble_eq_true rfl) (Nat.le_of_ble_eq_true rfl) (Nat.le_of_ble_eq_true rfl) rfl
theorem eX5_goesDay_69 : ev X m_X5_goesDay 69 [a0, a1, vI x] st mem = ev X m_X5_goesDay 72 [a0, a1, vI (w32 (x + 1))] st mem := ke_iinc rfl (Nat.le_of_ble_eq_true rfl) rfl dX5_goesDay_69
theorem eX5_goesDay_72 : ev X m_X5_goesDay 72 [a0, a1, a2] st mem = ev X m_X5_goesDay 47 [a0, a1, a2] st mem := ke_goto dX5_goesDay_72 rfl
theorem eX5_goesDay_75 : ev X m_X5_goesDay 75 [a0, a1, a2] st mem = ev X m_X5_goesDay 76 [a0, a1, a2] (vI 0 :: st) mem := ke_iconst (by decide) dX5_goesDay_75
theorem eX5_goesDay_76 : ev X m_X5_goesDay 76 [a0, a1, a2] (vI x :: st) mem = ev X m_X5_goesDay 77 [a0, a1, vI x] st mem := ke_istore_n (Nat.le_of_ble_eq_true rfl) rfl dX5_goesDay_76
theorem eX5_goesDay_77 : ev X m_X5_goesDay 77 [a0, a1, vI x] st mem = ev X m_X5_goesDay 78 [a0, a1, vI x] (vI x :: st) mem := ke_iload_n rfl dX5_goesDay_77
theorem eX5_goesDay_78 : ev X m_X5_goesDay 78 [a0, a1, a2] st mem = ev X m_X5_goesDay 80 [a0, a1, a2] (vI 36 :: st) mem := ke_bipush (by decide) dX5_goesDay_78
theorem eX5_goesDay_80 : ev X m_X5_goesDay 80 [a0, a1, a2] (vI y :: vI x :: st) mem = if x < y then ev X m_X5_goesDay 83 [a0, a1, a2] st mem else ev X m_X5_goesDay 122 [a0, a1, a2] st mem := ke_icmp_ge dX5_goesDay_80 rfl
theorem eX5_goesDay_83 : ev X m_X5_goesDay 83 [vR r, a1, a2] st mem = ev X m_X5_goesDay 84 [vR r, a1, a2] (vR r :: st) mem := ke_aload_n rfl dX5_goesDay_83
theorem eX5_goesDay_84 : ev X m_X5_goesDay 84 [a0, a1, a2] (vR r :: st) mem = evb X (fget mem r 5 13) m_X5_goesDay 87 [a0, a1, a2] st mem := ke_getf rfl dX5_goesDay_84
theorem eX5_goesDay_87 : ev X m_X5_goesDay 87 [a0, a1, a2] st mem = ev X m_X5_goesDay 89 [a0, a1, a2] (vI 7 :: st) mem := ke_bipush (by decide) dX5_goesDay_87
theorem eX5_goesDay_89 : ev X m_X5_goesDay 89 [a0, a1, a2] (vI y :: vI x :: st) mem = if y = 0 then none else ev X m_X5_goesDay 90 [a0, a1, a2] (vI (w32 (x.tmod y)) :: st) mem := ke_irem dX5_goesDay_89
theorem eX5_goesDay_90 : ev X m_X5_goesDay 90 [a0, a1, a2] (vI x :: st) mem = if x = 0 then ev X m_X5_goesDay 93 [a0, a1, a2] st mem else ev X m_X5_goesDay 122 [a0, a1, a2] st mem := ke_if_ne dX5_goesDay_90 rfl
theorem eX5_goesDay_93 : ev X m_X5_goesDay 93 [vR r, a1, a2] st mem = ev X m_X5_goesDay 94 [vR r, a1, a2] (vR r :: st) mem := ke_aload_n rfl dX5_goesDay_93
theorem eX5_goesDay_94 : ev X m_X5_goesDay 94 [a0, a1, a2] (vR r :: st) mem = evb X (fget mem r 5 5) m_X5_goesDay 97 [a0, a1, a2] st mem := ke_getf rfl dX5_goesDay_94
theorem eX5_goesDay_97 : ev X m_X5_goesDay 97 [a0, a1, vI x] st mem = ev X m_X5_goesDay 98 [a0, a1, vI x] (vI x :: st) mem := ke_iload_n rfl dX5_goesDay_97
theorem eX5_goesDay_98 : ev X m_X5_goesDay 98 [a0, a1, a2] (vI x :: vR r :: st) mem = ev X m_X5_goesDay 99 [a0, a1, a2] (vI x :: vR r :: vI x :: vR r :: st) mem := ke_dup2 dX5_goesDay_98
theorem eX5_goesDay_99 : ev X m_X5_goesDay 99 [a0, a1, a2] (vI x :: vR r :: st) mem = evb X (aget mem r x) m_X5_goesDay 100 [a0, a1, a2] st mem := ke_iaload dX5_goesDay_99
theorem eX5_goesDay_100 : ev X m_X5_goesDay 100 [vR r, a1, a2] st mem = ev X m_X5_goesDay 101 [vR r, a1, a2] (vR r :: st) mem := ke_aload_n rfl dX5_goesDay_100
theorem eX5_goesDay_101 : ev X m_X5_goesDay 101 [a0, a1, a2] (vR r :: st) mem = evb X (fget mem r 5 5) m_X5_goesDay 104 [a0, a1, a2] st mem := ke_getf rfl dX5_goesDay_101
theorem eX5_goesDay_104 : ev X m_X5_goesDay 104 [a0, a1, vI x] st mem = ev X m_X5_goesDay 105 [a0, a1, vI x] (vI x :: st) mem := ke_iload_n rfl dX5_goesDay_104
theorem eX5_goesDay_105 : ev X m_X5_goesDay 105 [a0, a1, a2] (vI x :: vR r :: st) mem = evb X (aget mem r x) m_X5_goesDay 106 [a0, a1, a2] st mem := ke_iaload dX5_goesDay_105
theorem eX5_goesDay_106 : ev X m_X5_goesDay 106 [a0, a1, a2] (vI x :: st) mem = if 0 < x then ev X m_X5_goesDay 109 [a0, a1, a2] st mem else ev X m_X5_goesDay 113 [a0, a1, a2] st mem := ke_if_le dX5_goesDay_106 rfl
theorem eX5_goesDay_109 : ev X m_X5_goesDay 109 [a0, a1, a2] st mem = ev X m_X5_goesDay 110 [a0, a1, a2] (vI 1 :: st) mem := ke_iconst (by decide) dX5_goesDay_109
theorem eX5_goesDay_110 : ev X m_X5_goesDay 110 [a0, a1, a2] st mem = ev X m_X5_goesDay 114 [a0, a1, a2] st mem := ke_goto dX5_goesDay_110 rfl
theorem eX5_goesDay_113 : ev X m_X5_goesDay 113 [a0, a1, a2] st mem = ev X m_X5_goesDay 114 [a0, a1, a2] (vI 0 :: st) mem := ke_iconst (by decide) dX5_goesDay_113
theorem eX5_goesDay_114 : ev X m_X5_goesDay 114 [a0, a1, a2] (vI y :: vI x :: st) mem = ev X m_X5_goesDay 115 [a0, a1, a2] (vI (w32 (x - y)) :: st) mem := ke_isub dX5_goesDay_114
theorem eX5_goesDay_115 : ev X m_X5_goesDay 115 [a0, a1, a2] (vI y :: vI x :: vR r :: st) mem = evm X (aput mem r x y) m_X5_goesDay 116 [a0, a1, a2] st := ke_iastore dX5_goesDay_115
theorem eX5_goesDay_116 : ev X m_X5_goesDay 116 [a0, a1, vI x] st mem = ev X m_X5_goesDay 119 [a0, a1, vI (w32 (x + 1))] st mem := ke_iinc rfl (Nat.le_of_ble_eq_true rfl) rfl dX5_goesDay_116
theorem eX5_goesDay_119 : ev X m_X5_goesDay 119 [a0, a1, a2] st mem = ev X m_X5_goesDay 77 [a0, a1, a2] st mem := ke_goto dX5_goesDay_119 rfl
theorem eX5_goesDay_122 : ev X m_X5_goesDay 122 [a0, a1, a2] [] mem = some (none, mem) := ke_return dX5_goesDay_122 rfl
theorem eX5_comesNearer_0 : ev X m_X5_comesNearer 0 [vR r, a1] st mem = ev X m_X5_comesNearer 1 [vR r, a1] (vR r :: st) mem := ke_aload_n rfl dX5_comesNearer_0
theorem eX5_comesNearer_1 : ev X m_X5_comesNearer 1 [a0, a1] (vR r :: st) mem = evb X (fget mem r 5 9) m_X5_comesNearer 4 [a0, a1] st mem := ke_getf rfl dX5_comesNearer_1
theorem eX5_comesNearer_4 : ev X m_X5_comesNearer 4 [a0, vI x] st mem = ev X m_X5_comesNearer 5 [a0, vI x] (vI x :: st) mem := ke_iload_n rfl dX5_comesNearer_4
theorem eX5_comesNearer_5 : ev X m_X5_comesNearer 5 [a0, a1] (vI x :: vR r :: st) mem = ev X m_X5_comesNearer 6 [a0, a1] (vI x :: vR r :: vI x :: vR r :: st) mem := ke_dup2 dX5_comesNearer_5
theorem eX5_comesNearer_6 : ev X m_X5_comesNearer 6 [a0, a1] (vI x :: vR r :: st) mem = evb X (aget mem r x) m_X5_comesNearer 7 [a0, a1] st mem := ke_iaload dX5_comesNearer_6
theorem eX5_comesNearer_7 : ev X m_X5_comesNearer 7 [a0, a1] st mem = ev X m_X5_comesNearer 8 [a0, a1] (vI 1 :: st) mem := ke_iconst (by decide) dX5_comesNearer_7
theorem eX5_comesNearer_8 : ev X m_X5_comesNearer 8 [a0, a1] (vI y :: vI x :: st) mem = ev X m_X5_comesNearer 9 [a0, a1] (vI (w32 (x - y)) :: st) mem := ke_isub dX5_comesNearer_8
theorem eX5_comesNearer_9 : ev X m_X5_comesNearer 9 [a0, a1] (vI y :: vI x :: vR r :: st) mem = evm X (aput mem r x y) m_X5_comesNearer 10 [a0, a1] st := ke_iastore dX5_comesNearer_9
theorem eX5_comesNearer_10 : ev X m_X5_comesNearer 10 [vR r, a1] st mem = ev X m_X5_comesNearer 11 [vR r, a1] (vR r :: st) mem := ke_aload_n rfl dX5_comesNearer_10
theorem eX5_comesNearer_11 : ev X m_X5_comesNearer 11 [a0, a1] (vR r :: st) mem = evb X (fget mem r 5 9) m_X5_comesNearer 14 [a0, a1] st mem := ke_getf rfl dX5_comesNearer_11
theorem eX5_comesNearer_14 : ev X m_X5_comesNearer 14 [a0, vI x] st mem = ev X m_X5_comesNearer 15 [a0, vI x] (vI x :: st) mem := ke_iload_n rfl dX5_comesNearer_14
theorem eX5_comesNearer_15 : ev X m_X5_comesNearer 15 [a0, a1] (vI x :: vR r :: st) mem = evb X (aget mem r x) m_X5_comesNearer 16 [a0, a1] st mem := ke_iaload dX5_comesNearer_15
theorem eX5_comesNearer_16 : ev X m_X5_comesNearer 16 [a0, a1] (vI x :: st) mem = if 0 < x then ev X m_X5_comesNearer 19 [a0, a1] st mem else ev X m_X5_comesNearer 20 [a0, a1] st mem := ke_if_le dX5_comesNearer_16 rfl
theorem eX5_comesNearer_19 : ev X m_X5_comesNearer 19 [a0, a1] [] mem = some (none, mem) := ke_return dX5_comesNearer_19 rfl
theorem eX5_comesNearer_20 : ev X m_X5_comesNearer 20 [vR r, a1] st mem = ev X m_X5_comesNearer 21 [vR r, a1] (vR r :: st) mem := ke_aload_n rfl dX5_comesNearer_20
theorem eX5_comesNearer_21 : ev X m_X5_comesNearer 21 [a0, a1] (vR r :: st) mem = evb X (fget mem r 5 8) m_X5_comesNearer 24 [a0, a1] st mem := ke_getf rfl dX5_comesNearer_21
theorem eX5_comesNearer_24 : ev X m_X5_comesNearer 24 [a0, vI x] st mem = ev X m_X5_comesNearer 25 [a0, vI x] (vI x :: st) mem := ke_iload_n rfl dX5_comesNearer_24
theorem eX5_comesNearer_25 : ev X m_X5_comesNearer 25 [a0, a1] st mem = ev X m_X5_comesNearer 26 [a0, a1] (vI 2 :: st) mem := ke_iconst (by decide) dX5_comesNearer_25
theorem eX5_comesNearer_26 : ev X m_X5_comesNearer 26 [a0, a1] (vI y :: vI x :: vR r :: st) mem = evm X (aput mem r x y) m_X5_comesNearer 27 [a0, a1] st := ke_iastore dX5_comesNearer_26
theorem eX5_comesNearer_27 : ev X m_X5_comesNearer 27 [vR r, a1] st mem = ev X m_X5_comesNearer 28 [vR r, a1] (vR r :: st) mem := ke_aload_n rfl dX5_comesNearer_27
theorem eX5_comesNearer_28 : ev X m_X5_comesNearer 28 [a0, a1] (vR r :: st) mem = evb X (fget mem r 5 4) m_X5_comesNearer 31 [a0, a1] st mem := ke_getf rfl dX5_comesNearer_28
theorem eX5_comesNearer_31 : ev X m_X5_comesNearer 31 [vR r, a1] st mem = ev X m_X5_comesNearer 32 [vR r, a1] (vR r :: st) mem := ke_aload_n rfl dX5_comesNearer_31
theorem eX5_comesNearer_32 : ev X m_X5_comesNearer 32 [a0, a1] (vR r :: st) mem = evb X (fget mem r 5 6) m_X5_comesNearer 35 [a0, a1] st mem := ke_getf rfl dX5_comesNearer_32
theorem eX5_comesNearer_35 : ev X m_X5_comesNearer 35 [a0, vI x] st mem = ev X m_X5_comesNearer 36 [a0, vI x] (vI x :: st) mem := ke_iload_n rfl dX5_comesNearer_35
theorem eX5_comesNearer_36 : ev X m_X5_comesNearer 36 [a0, a1] (vI x :: vR r :: st) mem = evb X (aget mem r x) m_X5_comesNearer 37 [a0, a1] st mem := ke_iaload dX5_comesNearer_36
theorem eX5_comesNearer_37 : ev X m_X5_comesNearer 37 [vR r, a1] st mem = ev X m_X5_comesNearer 38 [vR r, a1] (vR r :: st) mem := ke_aload_n rfl dX5_comesNearer_37
theorem eX5_comesNearer_38 : ev X m_X5_comesNearer 38 [a0, a1] (vR r :: st) mem = evb X (fget mem r 5 4) m_X5_comesNearer 41 [a0, a1] st mem := ke_getf rfl dX5_comesNearer_38
theorem eX5_comesNearer_41 : ev X m_X5_comesNearer 41 [vR r, a1] st mem = ev X m_X5_comesNearer 42 [vR r, a1] (vR r :: st) mem := ke_aload_n rfl dX5_comesNearer_41
theorem eX5_comesNearer_42 : ev X m_X5_comesNearer 42 [a0, a1] (vR r :: st) mem = evb X (fget mem r 5 6) m_X5_comesNearer 45 [a0, a1] st mem := ke_getf rfl dX5_comesNearer_42
theorem eX5_comesNearer_45 : ev X m_X5_comesNearer 45 [a0, vI x] st mem = ev X m_X5_comesNearer 46 [a0, vI x] (vI x :: st) mem := ke_iload_n rfl dX5_comesNearer_45
theorem eX5_comesNearer_46 : ev X m_X5_comesNearer 46 [a0, a1] (vI x :: vR r :: st) mem = evb X (aget mem r x) m_X5_comesNearer 47 [a0, a1] st mem := ke_iaload dX5_comesNearer_46
theorem eX5_comesNearer_47 : ev X m_X5_comesNearer 47 [a0, a1] (vI x :: vR r :: st) mem = evb X (aget mem r x) m_X5_comesNearer 48 [a0, a1] st mem := ke_iaload dX5_comesNearer_47
theorem eX5_comesNearer_48 : ev X m_X5_comesNearer 48 [a0, a1] st mem = ev X m_X5_comesNearer 49 [a0, a1] (vI 1 :: st) mem := ke_iconst (by decide) dX5_comesNearer_48
theorem eX5_comesNearer_49 : ev X m_X5_comesNearer 49 [a0, a1] (vI y :: vI x :: st) mem = ev X m_X5_comesNearer 50 [a0, a1] (vI (w32 (x + y)) :: st) mem := ke_iadd dX5_comesNearer_49
theorem eX5_comesNearer_50 : ev X m_X5_comesNearer 50 [a0, a1] st mem = ev X m_X5_comesNearer 51 [a0, a1] (vI 0 :: st) mem := ke_iconst (by decide) dX5_comesNearer_50
theorem eX5_comesNearer_51 : ev X m_X5_comesNearer 51 [a0, a1] st mem = ev X m_X5_comesNearer 54 [a0, a1] (vI 999 :: st) mem := ke_sipush (by decide) dX5_comesNearer_51
theorem eX5_comesNearer_54 : ev X m_X5_comesNearer 54 [a0, a1] (vI n2 :: vI n1 :: vI n0 :: [s0, s1]) mem = evc X (ev X m_X5_held 0 [vI n0, vI n1, vI n2] [] mem) m_X5_comesNearer 57 [a0, a1] [s0, s1] := ke_callS (m' := m_X5_held) (as := [vI n0, vI n1, vI n2]) (n := 3) (rest := [s0, s1]) dX5_comesNearer_54 rfl (by decide) rfl rfl rfl rfl rfl (Nat.le_of_ble_eq_true rfl) (Nat.le_of_ble_eq_true rfl) rfl
theorem eX5_comesNearer_57 : ev X m_X5_comesNearer 57 [a0, a1] (vI y :: vI x :: vR r :: st) mem = evm X (aput mem r x y) m_X5_comesNearer 58 [a0, a1] st := ke_iastore dX5_comesNearer_57
theorem eX5_comesNearer_58 : ev X m_X5_comesNearer 58 [vR r, a1] st mem = ev X m_X5_comesNearer 59 [vR r, a1] (vR r :: st) mem := ke_aload_n rfl dX5_comesNearer_58
theorem eX5_comesNearer_59 : ev X m_X5_comesNearer 59 [a0, a1] (vR r :: st) mem = evb X (fget mem r 5 5) m_X5_comesNearer 62 [a0, a1] st mem := ke_getf rfl dX5_comesNearer_59
theorem eX5_comesNearer_62 : ev X m_X5_comesNearer 62 [vR r, a1] st mem = ev X m_X5_comesNearer 63 [vR r, a1] (vR r :: st) mem := ke_aload_n rfl dX5_comesNearer_62
theorem eX5_comesNearer_63 : ev X m_X5_comesNearer 63 [a0, a1] (vR r :: st) mem = evb X (fget mem r 5 10) m_X5_comesNearer 66 [a0, a1] st mem := ke_getf rfl dX5_comesNearer_63
theorem eX5_comesNearer_66 : ev X m_X5_comesNearer 66 [a0, vI x] st mem = ev X m_X5_comesNearer 67 [a0, vI x] (vI x :: st) mem := ke_iload_n rfl dX5_comesNearer_66
theorem eX5_comesNearer_67 : ev X m_X5_comesNearer 67 [a0, a1] (vI x :: vR r :: st) mem = evb X (aget mem r x) m_X5_comesNearer 68 [a0, a1] st mem := ke_iaload dX5_comesNearer_67
theorem eX5_comesNearer_68 : ev X m_X5_comesNearer 68 [vR r, a1] st mem = ev X m_X5_comesNearer 69 [vR r, a1] (vR r :: st) mem := ke_aload_n rfl dX5_comesNearer_68
theorem eX5_comesNearer_69 : ev X m_X5_comesNearer 69 [a0, a1] (vR r :: st) mem = evb X (fget mem r 5 6) m_X5_comesNearer 72 [a0, a1] st mem := ke_getf rfl dX5_comesNearer_69
theorem eX5_comesNearer_72 : ev X m_X5_comesNearer 72 [a0, vI x] st mem = ev X m_X5_comesNearer 73 [a0, vI x] (vI x :: st) mem := ke_iload_n rfl dX5_comesNearer_72
theorem eX5_comesNearer_73 : ev X m_X5_comesNearer 73 [a0, a1] (vI x :: vR r :: st) mem = evb X (aget mem r x) m_X5_comesNearer 74 [a0, a1] st mem := ke_iaload dX5_comesNearer_73
theorem eX5_comesNearer_74 : ev X m_X5_comesNearer 74 [a0, a1] (vI n1 :: vI n0 :: [s0]) mem = evc X (ev X m_X5_spot 0 [vI n0, vI n1] [] mem) m_X5_comesNearer 77 [a0, a1] [s0] := ke_callS (m' := m_X5_spot) (as := [vI n0, vI n1]) (n := 2) (rest := [s0]) dX5_comesNearer_74 rfl (by decide) rfl rfl rfl rfl rfl (Nat.le_of_ble_eq_true rfl) (Nat.le_of_ble_eq_true rfl) rfl
theorem eX5_comesNearer_77 : ev X m_X5_comesNearer 77 [vR r, a1] st mem = ev X m_X5_comesNearer 78 [vR r, a1] (vR r :: st) mem := ke_aload_n rfl dX5_comesNearer_77
theorem eX5_comesNearer_78 : ev X m_X5_comesNearer 78 [a0, a1] (vR r :: st) mem = evb X (fget mem r 5 5) m_X5_comesNearer 81 [a0, a1] st mem := ke_getf rfl dX5_comesNearer_78
theorem eX5_comesNearer_81 : ev X m_X5_comesNearer 81 [vR r, a1] st mem = ev X m_X5_comesNearer 82 [vR r, a1] (vR r :: st) mem := ke_aload_n rfl dX5_comesNearer_81
theorem eX5_comesNearer_82 : ev X m_X5_comesNearer 82 [a0, a1] (vR r :: st) mem = evb X (fget mem r 5 10) m_X5_comesNearer 85 [a0, a1] st mem := ke_getf rfl dX5_comesNearer_82
theorem eX5_comesNearer_85 : ev X m_X5_comesNearer 85 [a0, vI x] st mem = ev X m_X5_comesNearer 86 [a0, vI x] (vI x :: st) mem := ke_iload_n rfl dX5_comesNearer_85
theorem eX5_comesNearer_86 : ev X m_X5_comesNearer 86 [a0, a1] (vI x :: vR r :: st) mem = evb X (aget mem r x) m_X5_comesNearer 87 [a0, a1] st mem := ke_iaload dX5_comesNearer_86
theorem eX5_comesNearer_87 : ev X m_X5_comesNearer 87 [vR r, a1] st mem = ev X m_X5_comesNearer 88 [vR r, a1] (vR r :: st) mem := ke_aload_n rfl dX5_comesNearer_87
theorem eX5_comesNearer_88 : ev X m_X5_comesNearer 88 [a0, a1] (vR r :: st) mem = evb X (fget mem r 5 6) m_X5_comesNearer 91 [a0, a1] st mem := ke_getf rfl dX5_comesNearer_88
theorem eX5_comesNearer_91 : ev X m_X5_comesNearer 91 [a0, vI x] st mem = ev X m_X5_comesNearer 92 [a0, vI x] (vI x :: st) mem := ke_iload_n rfl dX5_comesNearer_91
theorem eX5_comesNearer_92 : ev X m_X5_comesNearer 92 [a0, a1] (vI x :: vR r :: st) mem = evb X (aget mem r x) m_X5_comesNearer 93 [a0, a1] st mem := ke_iaload dX5_comesNearer_92
theorem eX5_comesNearer_93 : ev X m_X5_comesNearer 93 [a0, a1] (vI n1 :: vI n0 :: [s0, s1, s2]) mem = evc X (ev X m_X5_spot 0 [vI n0, vI n1] [] mem) m_X5_comesNearer 96 [a0, a1] [s0, s1, s2] := ke_callS (m' := m_X5_spot) (as := [vI n0, vI n1]) (n := 2) (rest := [s0, s1, s2]) dX5_comesNearer_93 rfl (by decide) rfl rfl rfl rfl rfl (Nat.le_of_ble_eq_true rfl) (Nat.le_of_ble_eq_true rfl) rfl
theorem eX5_comesNearer_96 : ev X m_X5_comesNearer 96 [a0, a1] (vI x :: vR r :: st) mem = evb X (aget mem r x) m_X5_comesNearer 97 [a0, a1] st mem := ke_iaload dX5_comesNearer_96
theorem eX5_comesNearer_97 : ev X m_X5_comesNearer 97 [vR r, a1] st mem = ev X m_X5_comesNearer 98 [vR r, a1] (vR r :: st) mem := ke_aload_n rfl dX5_comesNearer_97
theorem eX5_comesNearer_98 : ev X m_X5_comesNearer 98 [a0, a1] (vR r :: st) mem = evb X (fget mem r 5 7) m_X5_comesNearer 101 [a0, a1] st mem := ke_getf rfl dX5_comesNearer_98
theorem eX5_comesNearer_101 : ev X m_X5_comesNearer 101 [a0, vI x] st mem = ev X m_X5_comesNearer 102 [a0, vI x] (vI x :: st) mem := ke_iload_n rfl dX5_comesNearer_101
theorem eX5_comesNearer_102 : ev X m_X5_comesNearer 102 [a0, a1] (vI x :: vR r :: st) mem = evb X (aget mem r x) m_X5_comesNearer 103 [a0, a1] st mem := ke_iaload dX5_comesNearer_102
theorem eX5_comesNearer_103 : ev X m_X5_comesNearer 103 [a0, a1] (vI y :: vI x :: st) mem = ev X m_X5_comesNearer 104 [a0, a1] (vI (w32 (x - y)) :: st) mem := ke_isub dX5_comesNearer_103
theorem eX5_comesNearer_104 : ev X m_X5_comesNearer 104 [a0, a1] st mem = ev X m_X5_comesNearer 105 [a0, a1] (vI 0 :: st) mem := ke_iconst (by decide) dX5_comesNearer_104
theorem eX5_comesNearer_105 : ev X m_X5_comesNearer 105 [a0, a1] st mem = ev X m_X5_comesNearer 107 [a0, a1] (vI 99 :: st) mem := ke_bipush (by decide) dX5_comesNearer_105
theorem eX5_comesNearer_107 : ev X m_X5_comesNearer 107 [a0, a1] (vI n2 :: vI n1 :: vI n0 :: [s0, s1]) mem = evc X (ev X m_X5_held 0 [vI n0, vI n1, vI n2] [] mem) m_X5_comesNearer 110 [a0, a1] [s0, s1] := ke_callS (m' := m_X5_held) (as := [vI n0, vI n1, vI n2]) (n := 3) (rest := [s0, s1]) dX5_comesNearer_107 rfl (by decide) rfl rfl rfl rfl rfl (Nat.le_of_ble_eq_true rfl) (Nat.le_of_ble_eq_true rfl) rfl
theorem eX5_comesNearer_110 : ev X m_X5_comesNearer 110 [a0, a1] (vI y :: vI x :: vR r :: st) mem = evm X (aput mem r x y) m_X5_comesNearer 111 [a0, a1] st := ke_iastore dX5_comesNearer_110
theorem eX5_comesNearer_111 : ev X m_X5_comesNearer 111 [a0, a1] [] mem = some (none, mem) := ke_return dX5_comesNearer_111 rfl
theorem eX5_held_0 : ev X m_X5_held 0 [vI x, a1, a2] st mem = ev X m_X5_held 1 [vI x, a1, a2] (vI x :: st) mem := ke_iload_n rfl dX5_held_0
theorem eX5_held_1 : ev X m_X5_held 1 [a0, vI x, a2] st mem = ev X m_X5_held 2 [a0, vI x, a2] (vI x :: st) mem := ke_iload_n rfl dX5_held_1
theorem eX5_held_2 : ev X m_X5_held 2 [a0, a1, a2] (vI y :: vI x :: st) mem = if x < y then ev X m_X5_held 5 [a0, a1, a2] st mem else ev X m_X5_held 9 [a0, a1, a2] st mem := ke_icmp_ge dX5_held_2 rfl
theorem eX5_held_5 : ev X m_X5_held 5 [a0, vI x, a2] st mem = ev X m_X5_held 6 [a0, vI x, a2] (vI x :: st) mem := ke_iload_n rfl dX5_held_5
theorem eX5_held_6 : ev X m_X5_held 6 [a0, a1, a2] st mem = ev X m_X5_held 19 [a0, a1, a2] st mem := ke_goto dX5_held_6 rfl
theorem eX5_held_9 : ev X m_X5_held 9 [vI x, a1, a2] st mem = ev X m_X5_held 10 [vI x, a1, a2] (vI x :: st) mem := ke_iload_n rfl dX5_held_9
theorem eX5_held_10 : ev X m_X5_held 10 [a0, a1, vI x] st mem = ev X m_X5_held 11 [a0, a1, vI x] (vI x :: st) mem := ke_iload_n rfl dX5_held_10
theorem eX5_held_11 : ev X m_X5_held 11 [a0, a1, a2] (vI y :: vI x :: st) mem = if y < x then ev X m_X5_held 14 [a0, a1, a2] st mem else ev X m_X5_held 18 [a0, a1, a2] st mem := ke_icmp_le dX5_held_11 rfl
theorem eX5_held_14 : ev X m_X5_held 14 [a0, a1, vI x] st mem = ev X m_X5_held 15 [a0, a1, vI x] (vI x :: st) mem := ke_iload_n rfl dX5_held_14
theorem eX5_held_15 : ev X m_X5_held 15 [a0, a1, a2] st mem = ev X m_X5_held 19 [a0, a1, a2] st mem := ke_goto dX5_held_15 rfl
theorem eX5_held_18 : ev X m_X5_held 18 [vI x, a1, a2] st mem = ev X m_X5_held 19 [vI x, a1, a2] (vI x :: st) mem := ke_iload_n rfl dX5_held_18
theorem eX5_held_19 : ev X m_X5_held 19 [a0, a1, a2] [vI x] mem = some (some (vI x), mem) := ke_ireturn dX5_held_19 rfl
theorem eX5_isTaken_0 : ev X m_X5_isTaken 0 [vR r, a1, a2] st mem = ev X m_X5_isTaken 1 [vR r, a1, a2] (vR r :: st) mem := ke_aload_n rfl dX5_isTaken_0
theorem eX5_isTaken_1 : ev X m_X5_isTaken 1 [vR r, a1, a2] st mem = ev X m_X5_isTaken 2 [vR r, a1, a2] (vR r :: st) mem := ke_aload_n rfl dX5_isTaken_1
theorem eX5_isTaken_2 : ev X m_X5_isTaken 2 [a0, a1, a2] (vR r :: st) mem = evb X (fget mem r 5 6) m_X5_isTaken 5 [a0, a1, a2] st mem := ke_getf rfl dX5_isTaken_2
theorem eX5_isTaken_5 : ev X m_X5_isTaken 5 [a0, vI x, a2] st mem = ev X m_X5_isTaken 6 [a0, vI x, a2] (vI x :: st) mem := ke_iload_n rfl dX5_isTaken_5
theorem eX5_isTaken_6 : ev X m_X5_isTaken 6 [a0, a1, a2] (vI x :: vR r :: st) mem = evb X (aget mem r x) m_X5_isTaken 7 [a0, a1, a2] st mem := ke_iaload dX5_isTaken_6
theorem eX5_isTaken_7 : ev X m_X5_isTaken 7 [a0, a1, a2] (vI n0 :: vR r :: []) mem = evc X (gR mem r 5 (ev X m_X5_enemyOf 0 [vR r, vI n0] [] mem)) m_X5_isTaken 10 [a0, a1, a2] [] := ke_callV (m' := m_X5_enemyOf) (as := [vI n0]) (n := 1) (rest := []) dX5_isTaken_7 rfl rfl rfl rfl rfl rfl (Nat.le_of_ble_eq_true rfl) (Nat.le_of_ble_eq_true rfl) (Nat.le_of_ble_eq_true rfl) rfl
theorem eX5_isTaken_10 : ev X m_X5_isTaken 10 [a0, a1, a2] (vI x :: st) mem = ev X m_X5_isTaken 11 [a0, a1, vI x] st mem := ke_istore_n (Nat.le_of_ble_eq_true rfl) rfl dX5_isTaken_10
theorem eX5_isTaken_11 : ev X m_X5_isTaken 11 [a0, a1, vI x] st mem = ev X m_X5_isTaken 12 [a0, a1, vI x] (vI x :: st) mem := ke_iload_n rfl dX5_isTaken_11
theorem eX5_isTaken_12 : ev X m_X5_isTaken 12 [a0, a1, a2] (vI x :: st) mem = if x < 0 then ev X m_X5_isTaken 23 [a0, a1, a2] st mem else ev X m_X5_isTaken 15 [a0, a1, a2] st mem := ke_if_lt dX5_isTaken_12 rfl
theorem eX5_isTaken_15 : ev X m_X5_isTaken 15 [vR r, a1, a2] st mem = ev X m_X5_isTaken 16 [vR r, a1, a2] (vR r :: st) mem := ke_aload_n rfl dX5_isTaken_15
theorem eX5_isTaken_16 : ev X m_X5_isTaken 16 [a0, a1, vI x] st mem = ev X m_X5_isTaken 17 [a0, a1, vI x] (vI x :: st) mem := ke_iload_n rfl dX5_isTaken_16
theorem eX5_isTaken_17 : ev X m_X5_isTaken 17 [a0, a1, a2] (vI n0 :: vR r :: []) mem = evc X (gR mem r 5 (ev X m_X5_isCarrying 0 [vR r, vI n0, vS] [] mem)) m_X5_isTaken 20 [a0, a1, a2] [] := ke_callV (m' := m_X5_isCarrying) (as := [vI n0]) (n := 1) (rest := []) dX5_isTaken_17 rfl rfl rfl rfl rfl rfl (Nat.le_of_ble_eq_true rfl) (Nat.le_of_ble_eq_true rfl) (Nat.le_of_ble_eq_true rfl) rfl
theorem eX5_isTaken_20 : ev X m_X5_isTaken 20 [a0, a1, a2] (vI x :: st) mem = if x = 0 then ev X m_X5_isTaken 24 [a0, a1, a2] st mem else ev X m_X5_isTaken 23 [a0, a1, a2] st mem := ke_if_eq dX5_isTaken_20 rfl
theorem eX5_isTaken_23 : ev X m_X5_isTaken 23 [a0, a1, a2] [] mem = some (none, mem) := ke_return dX5_isTaken_23 rfl
theorem eX5_isTaken_24 : ev X m_X5_isTaken 24 [vR r, a1, a2] st mem = ev X m_X5_isTaken 25 [vR r, a1, a2] (vR r :: st) mem := ke_aload_n rfl dX5_isTaken_24
theorem eX5_isTaken_25 : ev X m_X5_isTaken 25 [a0, a1, a2] (vR r :: st) mem = evb X (fget mem r 5 8) m_X5_isTaken 28 [a0, a1, a2] st mem := ke_getf rfl dX5_isTaken_25
theorem eX5_isTaken_28 : ev X m_X5_isTaken 28 [a0, vI x, a2] st mem = ev X m_X5_isTaken 29 [a0, vI x, a2] (vI x :: st) mem := ke_iload_n rfl dX5_isTaken_28
theorem eX5_isTaken_29 : ev X m_X5_isTaken 29 [a0, a1, a2] st mem = ev X m_X5_isTaken 30 [a0, a1, a2] (vI 1 :: st) mem := ke_iconst (by decide) dX5_isTaken_29
theorem eX5_isTaken_30 : ev X m_X5_isTaken 30 [a0, a1, a2] (vI y :: vI x :: vR r :: st) mem = evm X (aput mem r x y) m_X5_isTaken 31 [a0, a1, a2] st := ke_iastore dX5_isTaken_30
theorem eX5_isTaken_31 : ev X m_X5_isTaken 31 [vR r, a1, a2] st mem = ev X m_X5_isTaken 32 [vR r, a1, a2] (vR r :: st) mem := ke_aload_n rfl dX5_isTaken_31
theorem eX5_isTaken_32 : ev X m_X5_isTaken 32 [a0, a1, a2] (vR r :: st) mem = evb X (fget mem r 5 10) m_X5_isTaken 35 [a0, a1, a2] st mem := ke_getf rfl dX5_isTaken_32
theorem eX5_isTaken_35 : ev X m_X5_isTaken 35 [a0, vI x, a2] st mem = ev X m_X5_isTaken 36 [a0, vI x, a2] (vI x :: st) mem := ke_iload_n rfl dX5_isTaken_35
theorem eX5_isTaken_36 : ev X m_X5_isTaken 36 [a0, a1, vI x] st mem = ev X m_X5_isTaken 37 [a0, a1, vI x] (vI x :: st) mem := ke_iload_n rfl dX5_isTaken_36
theorem eX5_isTaken_37 : ev X m_X5_isTaken 37 [a0, a1, a2] (vI y :: vI x :: vR r :: st) mem = evm X (aput mem r x y) m_X5_isTaken 38 [a0, a1, a2] st := ke_iastore dX5_isTaken_37
theorem eX5_isTaken_38 : ev X m_X5_isTaken 38 [vR r, a1, a2] st mem = ev X m_X5_isTaken 39 [vR r, a1, a2] (vR r :: st) mem := ke_aload_n rfl dX5_isTaken_38
theorem eX5_isTaken_39 : ev X m_X5_isTaken 39 [a0, a1, a2] (vR r :: st) mem = evb X (fget mem r 5 9) m_X5_isTaken 42 [a0, a1, a2] st mem := ke_getf rfl dX5_isTaken_39
theorem eX5_isTaken_42 : ev X m_X5_isTaken 42 [a0, vI x, a2] st mem = ev X m_X5_isTaken 43 [a0, vI x, a2] (vI x :: st) mem := ke_iload_n rfl dX5_isTaken_42
theorem eX5_isTaken_43 : ev X m_X5_isTaken 43 [vR r, a1, a2] st mem = ev X m_X5_isTaken 44 [vR r, a1, a2] (vR r :: st) mem := ke_aload_n rfl dX5_isTaken_43
theorem eX5_isTaken_44 : ev X m_X5_isTaken 44 [a0, a1, a2] (vR r :: st) mem = evb X (fget mem r 5 3) m_X5_isTaken 47 [a0, a1, a2] st mem := ke_getf rfl dX5_isTaken_44
theorem eX5_isTaken_47 : ev X m_X5_isTaken 47 [a0, a1, vI x] st mem = ev X m_X5_isTaken 48 [a0, a1, vI x] (vI x :: st) mem := ke_iload_n rfl dX5_isTaken_47
theorem eX5_isTaken_48 : ev X m_X5_isTaken 48 [a0, a1, a2] (vI x :: vR r :: st) mem = evb X (aget mem r x) m_X5_isTaken 49 [a0, a1, a2] st mem := ke_iaload dX5_isTaken_48
theorem eX5_isTaken_49 : ev X m_X5_isTaken 49 [vR r, a1, a2] st mem = ev X m_X5_isTaken 50 [vR r, a1, a2] (vR r :: st) mem := ke_aload_n rfl dX5_isTaken_49
theorem eX5_isTaken_50 : ev X m_X5_isTaken 50 [a0, a1, a2] (vR r :: st) mem = evb X (fget mem r 5 3) m_X5_isTaken 53 [a0, a1, a2] st mem := ke_getf rfl dX5_isTaken_50
theorem eX5_isTaken_53 : ev X m_X5_isTaken 53 [vR r, a1, a2] st mem = ev X m_X5_isTaken 54 [vR r, a1, a2] (vR r :: st) mem := ke_aload_n rfl dX5_isTaken_53
theorem eX5_isTaken_54 : ev X m_X5_isTaken 54 [a0, a1, a2] (vR r :: st) mem = evb X (fget mem r 5 6) m_X5_isTaken 57 [a0, a1, a2] st mem := ke_getf rfl dX5_isTaken_54
theorem eX5_isTaken_57 : ev X m_X5_isTaken 57 [a0, vI x, a2] st mem = ev X m_X5_isTaken 58 [a0, vI x, a2] (vI x :: st) mem := ke_iload_n rfl dX5_isTaken_57
theorem eX5_isTaken_58 : ev X m_X5_isTaken 58 [a0, a1, a2] (vI x :: vR r :: st) mem = evb X (aget mem r x) m_X5_isTaken 59 [a0, a1, a2] st mem := ke_iaload dX5_isTaken_58
theorem eX5_isTaken_59 : ev X m_X5_isTaken 59 [a0, a1, a2] (vI x :: vR r :: st) mem = evb X (aget mem r x) m_X5_isTaken 60 [a0, a1, a2] st mem := ke_iaload dX5_isTaken_59
theorem eX5_isTaken_60 : ev X m_X5_isTaken 60 [a0, a1, a2] (vI n1 :: vI n0 :: [s0, s1]) mem = evc X (ev X m_X5_apart 0 [vI n0, vI n1] [] mem) m_X5_isTaken 63 [a0, a1, a2] [s0, s1] := ke_callS (m' := m_X5_apart) (as := [vI n0, vI n1]) (n := 2) (rest := [s0, s1]) dX5_isTaken_60 rfl (by decide) rfl rfl rfl rfl rfl (Nat.le_of_ble_eq_true rfl) (Nat.le_of_ble_eq_true rfl) rfl
theorem eX5_isTaken_63 : ev X m_X5_isTaken 63 [vR r, a1, a2] st mem = ev X m_X5_isTaken 64 [vR r, a1, a2] (vR r :: st) mem := ke_aload_n rfl dX5_isTaken_63
theorem eX5_isTaken_64 : ev X m_X5_isTaken 64 [a0, a1, vI x] st mem = ev X m_X5_isTaken 65 [a0, a1, vI x] (vI x :: st) mem := ke_iload_n rfl dX5_isTaken_64
theorem eX5_isTaken_65 : ev X m_X5_isTaken 65 [a0, a1, a2] (vI n0 :: vR r :: [s0, s1, s2]) mem = evc X (gR mem r 5 (ev X m_X5_milesOf 0 [vR r, vI n0] [] mem)) m_X5_isTaken 68 [a0, a1, a2] [s0, s1, s2] := ke_callV (m' := m_X5_milesOf) (as := [vI n0]) (n := 1) (rest := [s0, s1, s2]) dX5_isTaken_65 rfl rfl rfl rfl rfl rfl (Nat.le_of_ble_eq_true rfl) (Nat.le_of_ble_eq_true rfl) (Nat.le_of_ble_eq_true rfl) rfl
theorem eX5_isTaken_68 : ev X m_X5_isTaken 68 [a0, a1, a2] (vI y :: vI x :: st) mem = ev X m_X5_isTaken 69 [a0, a1, a2] (vI (w32 (x + y)) :: st) mem := ke_iadd dX5_isTaken_68
theorem eX5_isTaken_69 : ev X m_X5_isTaken 69 [a0, a1, a2] st mem = ev X m_X5_isTaken 70 [a0, a1, a2] (vI 1 :: st) mem := ke_iconst (by decide) dX5_isTaken_69
theorem eX5_isTaken_70 : ev X m_X5_isTaken 70 [a0, a1, a2] (vI y :: vI x :: st) mem = ev X m_X5_isTaken 71 [a0, a1, a2] (vI (w32 (x - y)) :: st) mem := ke_isub dX5_isTaken_70
theorem eX5_isTaken_71 : ev X m_X5_isTaken 71 [vR r, a1, a2] st mem = ev X m_X5_isTaken 72 [vR r, a1, a2] (vR r :: st) mem := ke_aload_n rfl dX5_isTaken_71
theorem eX5_isTaken_72 : ev X m_X5_isTaken 72 [a0, a1, vI x] st mem = ev X m_X5_isTaken 73 [a0, a1, vI x] (vI x :: st) mem := ke_iload_n rfl dX5_isTaken_72
theorem eX5_isTaken_73 : ev X m_X5_isTaken 73 [a0, a1, a2] (vI n0 :: vR r :: [s0, s1, s2]) mem = evc X (gR mem r 5 (ev X m_X5_milesOf 0 [vR r, vI n0] [] mem)) m_X5_isTaken 76 [a0, a1, a2] [s0, s1, s2] := ke_callV (m' := m_X5_milesOf) (as := [vI n0]) (n := 1) (rest := [s0, s1, s2]) dX5_isTaken_73 rfl rfl rfl rfl rfl rfl (Nat.le_of_ble_eq_true rfl) (Nat.le_of_ble_eq_true rfl) (Nat.le_of_ble_eq_true rfl) rfl
theorem eX5_isTaken_76 : ev X m_X5_isTaken 76 [a0, a1, a2] (vI y :: vI x :: st) mem = if y = 0 then none else ev X m_X5_isTaken 77 [a0, a1, a2] (vI (w32 (x.tdiv y)) :: st) mem := ke_idiv dX5_isTaken_76
theorem eX5_isTaken_77 : ev X m_X5_isTaken 77 [a0, a1, a2] st mem = ev X m_X5_isTaken 78 [a0, a1, a2] (vI 1 :: st) mem := ke_iconst (by decide) dX5_isTaken_77
theorem eX5_isTaken_78 : ev X m_X5_isTaken 78 [a0, a1, a2] (vI y :: vI x :: st) mem = ev X m_X5_isTaken 79 [a0, a1, a2] (vI (w32 (x + y)) :: st) mem := ke_iadd dX5_isTaken_78
theorem eX5_isTaken_79 : ev X m_X5_isTaken 79 [a0, a1, a2] (vI y :: vI x :: vR r :: st) mem = evm X (aput mem r x y) m_X5_isTaken 80 [a0, a1, a2] st := ke_iastore dX5_isTaken_79
theorem eX5_isTaken_80 : ev X m_X5_isTaken 80 [a0, a1, a2] [] mem = some (none, mem) := ke_return dX5_isTaken_80 rfl
theorem eX5_enemyOf_0 : ev X m_X5_enemyOf 0 [vR r, a1] st mem = ev X m_X5_enemyOf 1 [vR r, a1] (vR r :: st) mem := ke_aload_n rfl dX5_enemyOf_0
theorem eX5_enemyOf_1 : ev X m_X5_enemyOf 1 [a0, vI x] st mem = ev X m_X5_enemyOf 2 [a0, vI x] (vI x :: st) mem := ke_iload_n rfl dX5_enemyOf_1
theorem eX5_enemyOf_2 : ev X m_X5_enemyOf 2 [a0, a1] st mem = ev X m_X5_enemyOf 4 [a0, a1] (vI (-9) :: st) mem := ke_bipush (by decide) dX5_enemyOf_2
theorem eX5_enemyOf_4 : ev X m_X5_enemyOf 4 [a0, a1] (vI n1 :: vI n0 :: vR r :: []) mem = evc X (gR mem r 5 (ev X m_X5_enemyBut 0 [vR r, vI n0, vI n1, vS, vS] [] mem)) m_X5_enemyOf 7 [a0, a1] [] := ke_callV (m' := m_X5_enemyBut) (as := [vI n0, vI n1]) (n := 2) (rest := []) dX5_enemyOf_4 rfl rfl rfl rfl rfl rfl (Nat.le_of_ble_eq_true rfl) (Nat.le_of_ble_eq_true rfl) (Nat.le_of_ble_eq_true rfl) rfl
theorem eX5_enemyOf_7 : ev X m_X5_enemyOf 7 [a0, a1] [vI x] mem = some (some (vI x), mem) := ke_ireturn dX5_enemyOf_7 rfl
theorem eX5_enemyBut_0 : ev X m_X5_enemyBut 0 [a0, a1, a2, a3, a4] st mem = ev X m_X5_enemyBut 2 [a0, a1, a2, a3, a4] (vI (-9) :: st) mem := ke_bipush (by decide) dX5_enemyBut_0
theorem eX5_enemyBut_2 : ev X m_X5_enemyBut 2 [a0, a1, a2, a3, a4] (vI x :: st) mem = ev X m_X5_enemyBut 3 [a0, a1, a2, vI x, a4] st mem := ke_istore_n (Nat.le_of_ble_eq_true rfl) rfl dX5_enemyBut_2
theorem eX5_enemyBut_3 : ev X m_X5_enemyBut 3 [a0, a1, a2, a3, a4] st mem = ev X m_X5_enemyBut 4 [a0, a1, a2, a3, a4] (vI 0 :: st) mem := ke_iconst (by decide) dX5_enemyBut_3
theorem eX5_enemyBut_4 : ev X m_X5_enemyBut 4 [a0, a1, a2, a3, a4] (vI x :: st) mem = ev X m_X5_enemyBut 6 [a0, a1, a2, a3, vI x] st mem := ke_istore (Nat.le_of_ble_eq_true rfl) rfl dX5_enemyBut_4
theorem eX5_enemyBut_6 : ev X m_X5_enemyBut 6 [a0, a1, a2, a3, vI x] st mem = ev X m_X5_enemyBut 8 [a0, a1, a2, a3, vI x] (vI x :: st) mem := ke_iload rfl dX5_enemyBut_6
theorem eX5_enemyBut_8 : ev X m_X5_enemyBut 8 [vR r, a1, a2, a3, a4] st mem = ev X m_X5_enemyBut 9 [vR r, a1, a2, a3, a4] (vR r :: st) mem := ke_aload_n rfl dX5_enemyBut_8
theorem eX5_enemyBut_9 : ev X m_X5_enemyBut 9 [a0, a1, a2, a3, a4] (vR r :: st) mem = evb X (fget mem r 5 11) m_X5_enemyBut 12 [a0, a1, a2, a3, a4] st mem := ke_getf rfl dX5_enemyBut_9
theorem eX5_enemyBut_12 : ev X m_X5_enemyBut 12 [a0, a1, a2, a3, a4] (vI y :: vI x :: st) mem = if x < y then ev X m_X5_enemyBut 15 [a0, a1, a2, a3, a4] st mem else ev X m_X5_enemyBut 56 [a0, a1, a2, a3, a4] st mem := ke_icmp_ge dX5_enemyBut_12 rfl
theorem eX5_enemyBut_15 : ev X m_X5_enemyBut 15 [a0, a1, a2, a3, vI x] st mem = ev X m_X5_enemyBut 17 [a0, a1, a2, a3, vI x] (vI x :: st) mem := ke_iload rfl dX5_enemyBut_15
theorem eX5_enemyBut_17 : ev X m_X5_enemyBut 17 [a0, vI x, a2, a3, a4] st mem = ev X m_X5_enemyBut 18 [a0, vI x, a2, a3, a4] (vI x :: st) mem := ke_iload_n rfl dX5_enemyBut_17
theorem eX5_enemyBut_18 : ev X m_X5_enemyBut 18 [a0, a1, a2, a3, a4] (vI y :: vI x :: st) mem = if x = y then ev X m_X5_enemyBut 50 [a0, a1, a2, a3, a4] st mem else ev X m_X5_enemyBut 21 [a0, a1, a2, a3, a4] st mem := ke_icmp_eq dX5_enemyBut_18 rfl
theorem eX5_enemyBut_21 : ev X m_X5_enemyBut 21 [a0, a1, a2, a3, vI x] st mem = ev X m_X5_enemyBut 23 [a0, a1, a2, a3, vI x] (vI x :: st) mem := ke_iload rfl dX5_enemyBut_21
theorem eX5_enemyBut_23 : ev X m_X5_enemyBut 23 [a0, a1, vI x, a3, a4] st mem = ev X m_X5_enemyBut 24 [a0, a1, vI x, a3, a4] (vI x :: st) mem := ke_iload_n rfl dX5_enemyBut_23
theorem eX5_enemyBut_24 : ev X m_X5_enemyBut 24 [a0, a1, a2, a3, a4] (vI y :: vI x :: st) mem = if x = y then ev X m_X5_enemyBut 50 [a0, a1, a2, a3, a4] st mem else ev X m_X5_enemyBut 27 [a0, a1, a2, a3, a4] st mem := ke_icmp_eq dX5_enemyBut_24 rfl
theorem eX5_enemyBut_27 : ev X m_X5_enemyBut 27 [a0, a1, a2, vI x, a4] st mem = ev X m_X5_enemyBut 28 [a0, a1, a2, vI x, a4] (vI x :: st) mem := ke_iload_n rfl dX5_enemyBut_27
theorem eX5_enemyBut_28 : ev X m_X5_enemyBut 28 [a0, a1, a2, a3, a4] (vI x :: st) mem = if x < 0 then ev X m_X5_enemyBut 47 [a0, a1, a2, a3, a4] st mem else ev X m_X5_enemyBut 31 [a0, a1, a2, a3, a4] st mem := ke_if_lt dX5_enemyBut_28 rfl
theorem eX5_enemyBut_31 : ev X m_X5_enemyBut 31 [vR r, a1, a2, a3, a4] st mem = ev X m_X5_enemyBut 32 [vR r, a1, a2, a3, a4] (vR r :: st) mem := ke_aload_n rfl dX5_enemyBut_31
theorem eX5_enemyBut_32 : ev X m_X5_enemyBut 32 [a0, a1, a2, a3, vI x] st mem = ev X m_X5_enemyBut 34 [a0, a1, a2, a3, vI x] (vI x :: st) mem := ke_iload rfl dX5_enemyBut_32
theorem eX5_enemyBut_34 : ev X m_X5_enemyBut 34 [a0, vI x, a2, a3, a4] st mem = ev X m_X5_enemyBut 35 [a0, vI x, a2, a3, a4] (vI x :: st) mem := ke_iload_n rfl dX5_enemyBut_34
theorem eX5_enemyBut_35 : ev X m_X5_enemyBut 35 [a0, a1, a2, a3, a4] (vI n1 :: vI n0 :: vR r :: []) mem = evc X (gR mem r 5 (ev X m_X5_maliceOf 0 [vR r, vI n0, vI n1, vS, vS] [] mem)) m_X5_enemyBut 38 [a0, a1, a2, a3, a4] [] := ke_callV (m' := m_X5_maliceOf) (as := [vI n0, vI n1]) (n := 2) (rest := []) dX5_enemyBut_35 rfl rfl rfl rfl rfl rfl (Nat.le_of_ble_eq_true rfl) (Nat.le_of_ble_eq_true rfl) (Nat.le_of_ble_eq_true rfl) rfl
theorem eX5_enemyBut_38 : ev X m_X5_enemyBut 38 [vR r, a1, a2, a3, a4] st mem = ev X m_X5_enemyBut 39 [vR r, a1, a2, a3, a4] (vR r :: st) mem := ke_aload_n rfl dX5_enemyBut_38
theorem eX5_enemyBut_39 : ev X m_X5_enemyBut 39 [a0, a1, a2, vI x, a4] st mem = ev X m_X5_enemyBut 40 [a0, a1, a2, vI x, a4] (vI x :: st) mem := ke_iload_n rfl dX5_enemyBut_39
theorem eX5_enemyBut_40 : ev X m_X5_enemyBut 40 [a0, vI x, a2, a3, a4] st mem = ev X m_X5_enemyBut 41 [a0, vI x, a2, a3, a4] (vI x :: st) mem := ke_iload_n rfl dX5_enemyBut_40
theorem eX5_enemyBut_41 : ev X m_X5_enemyBut 41 [a0, a1, a2, a3, a4] (vI n1 :: vI n0 :: vR r :: [s0]) mem = evc X (gR mem r 5 (ev X m_X5_maliceOf 0 [vR r, vI n0, vI n1, vS, vS] [] mem)) m_X5_enemyBut 44 [a0, a1, a2, a3, a4] [s0] := ke_callV (m' := m_X5_maliceOf) (as := [vI n0, vI n1]) (n := 2) (rest := [s0]) dX5_enemyBut_41 rfl rfl rfl rfl rfl rfl (Nat.le_of_ble_eq_true rfl) (Nat.le_of_ble_eq_true rfl) (Nat.le_of_ble_eq_true rfl) rfl
theorem eX5_enemyBut_44 : ev X m_X5_enemyBut 44 [a0, a1, a2, a3, a4] (vI y :: vI x :: st) mem = if y < x then ev X m_X5_enemyBut 47 [a0, a1, a2, a3, a4] st mem else ev X m_X5_enemyBut 50 [a0, a1, a2, a3, a4] st mem := ke_icmp_le dX5_enemyBut_44 rfl
theorem eX5_enemyBut_47 : ev X m_X5_enemyBut 47 [a0, a1, a2, a3, vI x] st mem = ev X m_X5_enemyBut 49 [a0, a1, a2, a3, vI x] (vI x :: st) mem := ke_iload rfl dX5_enemyBut_47
theorem eX5_enemyBut_49 : ev X m_X5_enemyBut 49 [a0, a1, a2, a3, a4] (vI x :: st) mem = ev X m_X5_enemyBut 50 [a0, a1, a2, vI x, a4] st mem := ke_istore_n (Nat.le_of_ble_eq_true rfl) rfl dX5_enemyBut_49
theorem eX5_enemyBut_50 : ev X m_X5_enemyBut 50 [a0, a1, a2, a3, vI x] st mem = ev X m_X5_enemyBut 53 [a0, a1, a2, a3, vI (w32 (x + 1))] st mem := ke_iinc rfl (Nat.le_of_ble_eq_true rfl) rfl dX5_enemyBut_50
theorem eX5_enemyBut_53 : ev X m_X5_enemyBut 53 [a0, a1, a2, a3, a4] st mem = ev X m_X5_enemyBut 6 [a0, a1, a2, a3, a4] st mem := ke_goto dX5_enemyBut_53 rfl
theorem eX5_enemyBut_56 : ev X m_X5_enemyBut 56 [a0, a1, a2, vI x, a4] st mem = ev X m_X5_enemyBut 57 [a0, a1, a2, vI x, a4] (vI x :: st) mem := ke_iload_n rfl dX5_enemyBut_56
theorem eX5_enemyBut_57 : ev X m_X5_enemyBut 57 [a0, a1, a2, a3, a4] (vI x :: st) mem = if x < 0 then ev X m_X5_enemyBut 70 [a0, a1, a2, a3, a4] st mem else ev X m_X5_enemyBut 60 [a0, a1, a2, a3, a4] st mem := ke_if_lt dX5_enemyBut_57 rfl
theorem eX5_enemyBut_60 : ev X m_X5_enemyBut 60 [vR r, a1, a2, a3, a4] st mem = ev X m_X5_enemyBut 61 [vR r, a1, a2, a3, a4] (vR r :: st) mem := ke_aload_n rfl dX5_enemyBut_60
theorem eX5_enemyBut_61 : ev X m_X5_enemyBut 61 [a0, a1, a2, vI x, a4] st mem = ev X m_X5_enemyBut 62 [a0, a1, a2, vI x, a4] (vI x :: st) mem := ke_iload_n rfl dX5_enemyBut_61
theorem eX5_enemyBut_62 : ev X m_X5_enemyBut 62 [a0, vI x, a2, a3, a4] st mem = ev X m_X5_enemyBut 63 [a0, vI x, a2, a3, a4] (vI x :: st) mem := ke_iload_n rfl dX5_enemyBut_62
theorem eX5_enemyBut_63 : ev X m_X5_enemyBut 63 [a0, a1, a2, a3, a4] (vI n1 :: vI n0 :: vR r :: []) mem = evc X (gR mem r 5 (ev X m_X5_maliceOf 0 [vR r, vI n0, vI n1, vS, vS] [] mem)) m_X5_enemyBut 66 [a0, a1, a2, a3, a4] [] := ke_callV (m' := m_X5_maliceOf) (as := [vI n0, vI n1]) (n := 2) (rest := []) dX5_enemyBut_63 rfl rfl rfl rfl rfl rfl (Nat.le_of_ble_eq_true rfl) (Nat.le_of_ble_eq_true rfl) (Nat.le_of_ble_eq_true rfl) rfl
theorem eX5_enemyBut_66 : ev X m_X5_enemyBut 66 [a0, a1, a2, a3, a4] st mem = ev X m_X5_enemyBut 67 [a0, a1, a2, a3, a4] (vI 5 :: st) mem := ke_iconst (by decide) dX5_enemyBut_66
theorem eX5_enemyBut_67 : ev X m_X5_enemyBut 67 [a0, a1, a2, a3, a4] (vI y :: vI x :: st) mem = if x < y then ev X m_X5_enemyBut 70 [a0, a1, a2, a3, a4] st mem else ev X m_X5_enemyBut 75 [a0, a1, a2, a3, a4] st mem := ke_icmp_ge dX5_enemyBut_67 rfl
theorem eX5_enemyBut_70 : ev X m_X5_enemyBut 70 [a0, a1, a2, a3, a4] st mem = ev X m_X5_enemyBut 72 [a0, a1, a2, a3, a4] (vI (-9) :: st) mem := ke_bipush (by decide) dX5_enemyBut_70
theorem eX5_enemyBut_72 : ev X m_X5_enemyBut 72 [a0, a1, a2, a3, a4] st mem = ev X m_X5_enemyBut 76 [a0, a1, a2, a3, a4] st mem := ke_goto dX5_enemyBut_72 rfl
theorem eX5_enemyBut_75 : ev X m_X5_enemyBut 75 [a0, a1, a2, vI x, a4] st mem = ev X m_X5_enemyBut 76 [a0, a1, a2, vI x, a4] (vI x :: st) mem := ke_iload_n rfl dX5_enemyBut_75
theorem eX5_enemyBut_76 : ev X m_X5_enemyBut 76 [a0, a1, a2, a3, a4] [vI x] mem = some (some (vI x), mem) := ke_ireturn dX5_enemyBut_76 rfl
theorem eX5_maliceOf_0 : ev X m_X5_maliceOf 0 [vR r, a1, a2, a3, a4] st mem = ev X m_X5_maliceOf 1 [vR r, a1, a2, a3, a4] (vR r :: st) mem := ke_aload_n rfl dX5_maliceOf_0
theorem eX5_maliceOf_1 : ev X m_X5_maliceOf 1 [a0, a1, a2, a3, a4] (vR r :: st) mem = evb X (fget mem r 5 5) m_X5_maliceOf 4 [a0, a1, a2, a3, a4] st mem := ke_getf rfl dX5_maliceOf_1
theorem eX5_maliceOf_4 : ev X m_X5_maliceOf 4 [a0, vI x, a2, a3, a4] st mem = ev X m_X5_maliceOf 5 [a0, vI x, a2, a3, a4] (vI x :: st) mem := ke_iload_n rfl dX5_maliceOf_4
theorem eX5_maliceOf_5 : ev X m_X5_maliceOf 5 [a0, a1, vI x, a3, a4] st mem = ev X m_X5_maliceOf 6 [a0, a1, vI x, a3, a4] (vI x :: st) mem := ke_iload_n rfl dX5_maliceOf_5
theorem eX5_maliceOf_6 : ev X m_X5_maliceOf 6 [a0, a1, a2, a3, a4] (vI n1 :: vI n0 :: [s0]) mem = evc X (ev X m_X5_spot 0 [vI n0, vI n1] [] mem) m_X5_maliceOf 9 [a0, a1, a2, a3, a4] [s0] := ke_callS (m' := m_X5_spot) (as := [vI n0, vI n1]) (n := 2) (rest := [s0]) dX5_maliceOf_6 rfl (by decide) rfl rfl rfl rfl rfl (Nat.le_of_ble_eq_true rfl) (Nat.le_of_ble_eq_true rfl) rfl
theorem eX5_maliceOf_9 : ev X m_X5_maliceOf 9 [a0, a1, a2, a3, a4] (vI x :: vR r :: st) mem = evb X (aget mem r x) m_X5_maliceOf 10 [a0, a1, a2, a3, a4] st mem := ke_iaload dX5_maliceOf_9
theorem eX5_maliceOf_10 : ev X m_X5_maliceOf 10 [a0, a1, a2, a3, a4] (vI x :: st) mem = ev X m_X5_maliceOf 11 [a0, a1, a2, vI x, a4] st mem := ke_istore_n (Nat.le_of_ble_eq_true rfl) rfl dX5_maliceOf_10
theorem eX5_maliceOf_11 : ev X m_X5_maliceOf 11 [a0, a1, a2, vI x, a4] st mem = ev X m_X5_maliceOf 12 [a0, a1, a2, vI x, a4] (vI x :: st) mem := ke_iload_n rfl dX5_maliceOf_11
theorem eX5_maliceOf_12 : ev X m_X5_maliceOf 12 [a0, a1, a2, a3, a4] (vI x :: st) mem = if 0 < x then ev X m_X5_maliceOf 15 [a0, a1, a2, a3, a4] st mem else ev X m_X5_maliceOf 26 [a0, a1, a2, a3, a4] st mem := ke_if_le dX5_maliceOf_12 rfl
theorem eX5_maliceOf_15 : ev X m_X5_maliceOf 15 [a0, a1, a2, vI x, a4] st mem = ev X m_X5_maliceOf 16 [a0, a1, a2, vI x, a4] (vI x :: st) mem := ke_iload_n rfl dX5_maliceOf_15
theorem eX5_maliceOf_16 : ev X m_X5_maliceOf 16 [vR r, a1, a2, a3, a4] st mem = ev X m_X5_maliceOf 17 [vR r, a1, a2, a3, a4] (vR r :: st) mem := ke_aload_n rfl dX5_maliceOf_16
theorem eX5_maliceOf_17 : ev X m_X5_maliceOf 17 [a0, a1, a2, a3, a4] (vR r :: st) mem = evb X (fget mem r 5 2) m_X5_maliceOf 20 [a0, a1, a2, a3, a4] st mem := ke_getf rfl dX5_maliceOf_17
theorem eX5_maliceOf_20 : ev X m_X5_maliceOf 20 [a0, vI x, a2, a3, a4] st mem = ev X m_X5_maliceOf 21 [a0, vI x, a2, a3, a4] (vI x :: st) mem := ke_iload_n rfl dX5_maliceOf_20
theorem eX5_maliceOf_21 : ev X m_X5_maliceOf 21 [a0, a1, a2, a3, a4] (vI x :: vR r :: st) mem = evb X (aget mem r x) m_X5_maliceOf 22 [a0, a1, a2, a3, a4] st mem := ke_iaload dX5_maliceOf_21
theorem eX5_maliceOf_22 : ev X m_X5_maliceOf 22 [a0, a1, a2, a3, a4] (vI y :: vI x :: st) mem = ev X m_X5_maliceOf 23 [a0, a1, a2, a3, a4] (vI (w32 (x + y)) :: st) mem := ke_iadd dX5_maliceOf_22
theorem eX5_maliceOf_23 : ev X m_X5_maliceOf 23 [a0, a1, a2, a3, a4] st mem = ev X m_X5_maliceOf 27 [a0, a1, a2, a3, a4] st mem := ke_goto dX5_maliceOf_23 rfl
theorem eX5_maliceOf_26 : ev X m_X5_maliceOf 26 [a0, a1, a2, a3, a4] st mem = ev X m_X5_maliceOf 27 [a0, a1, a2, a3, a4] (vI 0 :: st) mem := ke_iconst (by decide) dX5_maliceOf_26
theorem eX5_maliceOf_27 : ev X m_X5_maliceOf 27 [a0, a1, a2, a3, a4] (vI x :: st) mem = ev X m_X5_maliceOf 29 [a0, a1, a2, a3, vI x] st mem := ke_istore (Nat.le_of_ble_eq_true rfl) rfl dX5_maliceOf_27
theorem eX5_maliceOf_29 : ev X m_X5_maliceOf 29 [vR r, a1, a2, a3, a4] st mem = ev X m_X5_maliceOf 30 [vR r, a1, a2, a3, a4] (vR r :: st) mem := ke_aload_n rfl dX5_maliceOf_29
theorem eX5_maliceOf_30 : ev X m_X5_maliceOf 30 [a0, a1, a2, a3, a4] (vR r :: st) mem = evb X (fget mem r 5 1) m_X5_maliceOf 33 [a0, a1, a2, a3, a4] st mem := ke_getf rfl dX5_maliceOf_30
theorem eX5_maliceOf_33 : ev X m_X5_maliceOf 33 [a0, vI x, a2, a3, a4] st mem = ev X m_X5_maliceOf 34 [a0, vI x, a2, a3, a4] (vI x :: st) mem := ke_iload_n rfl dX5_maliceOf_33
theorem eX5_maliceOf_34 : ev X m_X5_maliceOf 34 [a0, a1, a2, a3, a4] (vI x :: vR r :: st) mem = evb X (aget mem r x) m_X5_maliceOf 35 [a0, a1, a2, a3, a4] st mem := ke_iaload dX5_maliceOf_34
theorem eX5_maliceOf_35 : ev X m_X5_maliceOf 35 [a0, a1, a2, a3, a4] (vI x :: st) mem = if x = 1 then ev X m_X5_maliceOf 68 [a0, a1, a2, a3, a4] st mem else if x = 2 then ev X m_X5_maliceOf 72 [a0, a1, a2, a3, a4] st mem else if x = 3 then ev X m_X5_maliceOf 75 [a0, a1, a2, a3, a4] st mem else if x = 4 then ev X m_X5_maliceOf 80 [a0, a1, a2, a3, a4] st mem else if x = 5 then ev X m_X5_maliceOf 91 [a0, a1, a2, a3, a4] st mem else ev X m_X5_maliceOf 120 [a0, a1, a2, a3, a4] st mem := by
  by_cases h0 : x = 1
  · subst h0; rw [if_pos rfl]; exact ke_swT dX5_maliceOf_35 (by decide) (by decide) (off := 33) rfl rfl
  rw [if_neg h0]
  by_cases h1 : x = 2
  · subst h1; rw [if_pos rfl]; exact ke_swT dX5_maliceOf_35 (by decide) (by decide) (off := 37) rfl rfl
  rw [if_neg h1]
  by_cases h2 : x = 3
  · subst h2; rw [if_pos rfl]; exact ke_swT dX5_maliceOf_35 (by decide) (by decide) (off := 40) rfl rfl
  rw [if_neg h2]
  by_cases h3 : x = 4
  · subst h3; rw [if_pos rfl]; exact ke_swT dX5_maliceOf_35 (by decide) (by decide) (off := 45) rfl rfl
  rw [if_neg h3]
  by_cases h4 : x = 5
  · subst h4; rw [if_pos rfl]; exact ke_swT dX5_maliceOf_35 (by decide) (by decide) (off := 56) rfl rfl
  rw [if_neg h4]
  exact ke_swD dX5_maliceOf_35 (by omega) rfl
theorem eX5_maliceOf_68 : ev X m_X5_maliceOf 68 [a0, a1, a2, vI x, a4] st mem = ev X m_X5_maliceOf 69 [a0, a1, a2, vI x, a4] (vI x :: st) mem := ke_iload_n rfl dX5_maliceOf_68
theorem eX5_maliceOf_69 : ev X m_X5_maliceOf 69 [a0, a1, a2, a3, a4] st mem = ev X m_X5_maliceOf 70 [a0, a1, a2, a3, a4] (vI 2 :: st) mem := ke_iconst (by decide) dX5_maliceOf_69
theorem eX5_maliceOf_70 : ev X m_X5_maliceOf 70 [a0, a1, a2, a3, a4] (vI y :: vI x :: st) mem = if y = 0 then none else ev X m_X5_maliceOf 71 [a0, a1, a2, a3, a4] (vI (w32 (x.tdiv y)) :: st) mem := ke_idiv dX5_maliceOf_70
theorem eX5_maliceOf_71 : ev X m_X5_maliceOf 71 [a0, a1, a2, a3, a4] [vI x] mem = some (some (vI x), mem) := ke_ireturn dX5_maliceOf_71 rfl
theorem eX5_maliceOf_72 : ev X m_X5_maliceOf 72 [a0, a1, a2, a3, vI x] st mem = ev X m_X5_maliceOf 74 [a0, a1, a2, a3, vI x] (vI x :: st) mem := ke_iload rfl dX5_maliceOf_72
theorem eX5_maliceOf_74 : ev X m_X5_maliceOf 74 [a0, a1, a2, a3, a4] [vI x] mem = some (some (vI x), mem) := ke_ireturn dX5_maliceOf_74 rfl
theorem eX5_maliceOf_75 : ev X m_X5_maliceOf 75 [a0, a1, a2, a3, a4] st mem = ev X m_X5_maliceOf 76 [a0, a1, a2, a3, a4] (vI 2 :: st) mem := ke_iconst (by decide) dX5_maliceOf_75
theorem eX5_maliceOf_76 : ev X m_X5_maliceOf 76 [a0, a1, a2, a3, vI x] st mem = ev X m_X5_maliceOf 78 [a0, a1, a2, a3, vI x] (vI x :: st) mem := ke_iload rfl dX5_maliceOf_76
theorem eX5_maliceOf_78 : ev X m_X5_maliceOf 78 [a0, a1, a2, a3, a4] (vI y :: vI x :: st) mem = ev X m_X5_maliceOf 79 [a0, a1, a2, a3, a4] (vI (w32 (x * y)) :: st) mem := ke_imul dX5_maliceOf_78
theorem eX5_maliceOf_79 : ev X m_X5_maliceOf 79 [a0, a1, a2, a3, a4] [vI x] mem = some (some (vI x), mem) := ke_ireturn dX5_maliceOf_79 rfl
theorem eX5_maliceOf_80 : ev X m_X5_maliceOf 80 [a0, a1, a2, vI x, a4] st mem = ev X m_X5_maliceOf 81 [a0, a1, a2, vI x, a4] (vI x :: st) mem := ke_iload_n rfl dX5_maliceOf_80
theorem eX5_maliceOf_81 : ev X m_X5_maliceOf 81 [a0, a1, a2, a3, a4] st mem = ev X m_X5_maliceOf 82 [a0, a1, a2, a3, a4] (vI 2 :: st) mem := ke_iconst (by decide) dX5_maliceOf_81
theorem eX5_maliceOf_82 : ev X m_X5_maliceOf 82 [a0, a1, a2, a3, a4] (vI y :: vI x :: st) mem = if y = 0 then none else ev X m_X5_maliceOf 83 [a0, a1, a2, a3, a4] (vI (w32 (x.tdiv y)) :: st) mem := ke_idiv dX5_maliceOf_82
theorem eX5_maliceOf_83 : ev X m_X5_maliceOf 83 [vR r, a1, a2, a3, a4] st mem = ev X m_X5_maliceOf 84 [vR r, a1, a2, a3, a4] (vR r :: st) mem := ke_aload_n rfl dX5_maliceOf_83
theorem eX5_maliceOf_84 : ev X m_X5_maliceOf 84 [a0, a1, a2, a3, a4] (vR r :: st) mem = evb X (fget mem r 5 2) m_X5_maliceOf 87 [a0, a1, a2, a3, a4] st mem := ke_getf rfl dX5_maliceOf_84
theorem eX5_maliceOf_87 : ev X m_X5_maliceOf 87 [a0, vI x, a2, a3, a4] st mem = ev X m_X5_maliceOf 88 [a0, vI x, a2, a3, a4] (vI x :: st) mem := ke_iload_n rfl dX5_maliceOf_87
theorem eX5_maliceOf_88 : ev X m_X5_maliceOf 88 [a0, a1, a2, a3, a4] (vI x :: vR r :: st) mem = evb X (aget mem r x) m_X5_maliceOf 89 [a0, a1, a2, a3, a4] st mem := ke_iaload dX5_maliceOf_88
theorem eX5_maliceOf_89 : ev X m_X5_maliceOf 89 [a0, a1, a2, a3, a4] (vI y :: vI x :: st) mem = ev X m_X5_maliceOf 90 [a0, a1, a2, a3, a4] (vI (w32 (x + y)) :: st) mem := ke_iadd dX5_maliceOf_89
theorem eX5_maliceOf_90 : ev X m_X5_maliceOf 90 [a0, a1, a2, a3, a4] [vI x] mem = some (some (vI x), mem) := ke_ireturn dX5_maliceOf_90 rfl
theorem eX5_maliceOf_91 : ev X m_X5_maliceOf 91 [vR r, a1, a2, a3, a4] st mem = ev X m_X5_maliceOf 92 [vR r, a1, a2, a3, a4] (vR r :: st) mem := ke_aload_n rfl dX5_maliceOf_91
theorem eX5_maliceOf_92 : ev X m_X5_maliceOf 92 [a0, a1, a2, a3, a4] (vR r :: st) mem = evb X (fget mem r 5 3) m_X5_maliceOf 95 [a0, a1, a2, a3, a4] st mem := ke_getf rfl dX5_maliceOf_92
theorem eX5_maliceOf_95 : ev X m_X5_maliceOf 95 [a0, vI x, a2, a3, a4] st mem = ev X m_X5_maliceOf 96 [a0, vI x, a2, a3, a4] (vI x :: st) mem := ke_iload_n rfl dX5_maliceOf_95
theorem eX5_maliceOf_96 : ev X m_X5_maliceOf 96 [a0, a1, a2, a3, a4] (vI x :: vR r :: st) mem = evb X (aget mem r x) m_X5_maliceOf 97 [a0, a1, a2, a3, a4] st mem := ke_iaload dX5_maliceOf_96
theorem eX5_maliceOf_97 : ev X m_X5_maliceOf 97 [vR r, a1, a2, a3, a4] st mem = ev X m_X5_maliceOf 98 [vR r, a1, a2, a3, a4] (vR r :: st) mem := ke_aload_n rfl dX5_maliceOf_97
theorem eX5_maliceOf_98 : ev X m_X5_maliceOf 98 [a0, a1, a2, a3, a4] (vR r :: st) mem = evb X (fget mem r 5 3) m_X5_maliceOf 101 [a0, a1, a2, a3, a4] st mem := ke_getf rfl dX5_maliceOf_98
theorem eX5_maliceOf_101 : ev X m_X5_maliceOf 101 [a0, a1, vI x, a3, a4] st mem = ev X m_X5_maliceOf 102 [a0, a1, vI x, a3, a4] (vI x :: st) mem := ke_iload_n rfl dX5_maliceOf_101
theorem eX5_maliceOf_102 : ev X m_X5_maliceOf 102 [a0, a1, a2, a3, a4] (vI x :: vR r :: st) mem = evb X (aget mem r x) m_X5_maliceOf 103 [a0, a1, a2, a3, a4] st mem := ke_iaload dX5_maliceOf_102
theorem eX5_maliceOf_103 : ev X m_X5_maliceOf 103 [a0, a1, a2, a3, a4] (vI n1 :: vI n0 :: []) mem = evc X (ev X m_X5_apart 0 [vI n0, vI n1] [] mem) m_X5_maliceOf 106 [a0, a1, a2, a3, a4] [] := ke_callS (m' := m_X5_apart) (as := [vI n0, vI n1]) (n := 2) (rest := []) dX5_maliceOf_103 rfl (by decide) rfl rfl rfl rfl rfl (Nat.le_of_ble_eq_true rfl) (Nat.le_of_ble_eq_true rfl) rfl
theorem eX5_maliceOf_106 : ev X m_X5_maliceOf 106 [a0, a1, a2, a3, a4] st mem = ev X m_X5_maliceOf 108 [a0, a1, a2, a3, a4] (vI 10 :: st) mem := ke_bipush (by decide) dX5_maliceOf_106
theorem eX5_maliceOf_108 : ev X m_X5_maliceOf 108 [a0, a1, a2, a3, a4] (vI y :: vI x :: st) mem = if x < y then ev X m_X5_maliceOf 115 [a0, a1, a2, a3, a4] st mem else ev X m_X5_maliceOf 111 [a0, a1, a2, a3, a4] st mem := ke_icmp_lt dX5_maliceOf_108 rfl
theorem eX5_maliceOf_111 : ev X m_X5_maliceOf 111 [a0, a1, a2, a3, a4] st mem = ev X m_X5_maliceOf 112 [a0, a1, a2, a3, a4] (vI 0 :: st) mem := ke_iconst (by decide) dX5_maliceOf_111
theorem eX5_maliceOf_112 : ev X m_X5_maliceOf 112 [a0, a1, a2, a3, a4] st mem = ev X m_X5_maliceOf 119 [a0, a1, a2, a3, a4] st mem := ke_goto dX5_maliceOf_112 rfl
theorem eX5_maliceOf_115 : ev X m_X5_maliceOf 115 [a0, a1, a2, a3, a4] st mem = ev X m_X5_maliceOf 116 [a0, a1, a2, a3, a4] (vI 2 :: st) mem := ke_iconst (by decide) dX5_maliceOf_115
theorem eX5_maliceOf_116 : ev X m_X5_maliceOf 116 [a0, a1, a2, a3, vI x] st mem = ev X m_X5_maliceOf 118 [a0, a1, a2, a3, vI x] (vI x :: st) mem := ke_iload rfl dX5_maliceOf_116
theorem eX5_maliceOf_118 : ev X m_X5_maliceOf 118 [a0, a1, a2, a3, a4] (vI y :: vI x :: st) mem = ev X m_X5_maliceOf 119 [a0, a1, a2, a3, a4] (vI (w32 (x * y)) :: st) mem := ke_imul dX5_maliceOf_118
theorem eX5_maliceOf_119 : ev X m_X5_maliceOf 119 [a0, a1, a2, a3, a4] [vI x] mem = some (some (vI x), mem) := ke_ireturn dX5_maliceOf_119 rfl
theorem eX5_maliceOf_120 : ev X m_X5_maliceOf 120 [a0, a1, a2, vI x, a4] st mem = ev X m_X5_maliceOf 121 [a0, a1, a2, vI x, a4] (vI x :: st) mem := ke_iload_n rfl dX5_maliceOf_120
theorem eX5_maliceOf_121 : ev X m_X5_maliceOf 121 [a0, a1, a2, a3, a4] [vI x] mem = some (some (vI x), mem) := ke_ireturn dX5_maliceOf_121 rfl
theorem eX5_apart_0 : ev X m_X5_apart 0 [vI x, a1] st mem = ev X m_X5_apart 1 [vI x, a1] (vI x :: st) mem := ke_iload_n rfl dX5_apart_0
theorem eX5_apart_1 : ev X m_X5_apart 1 [a0, vI x] st mem = ev X m_X5_apart 2 [a0, vI x] (vI x :: st) mem := ke_iload_n rfl dX5_apart_1
theorem eX5_apart_2 : ev X m_X5_apart 2 [a0, a1] (vI y :: vI x :: st) mem = if y < x then ev X m_X5_apart 5 [a0, a1] st mem else ev X m_X5_apart 11 [a0, a1] st mem := ke_icmp_le dX5_apart_2 rfl
theorem eX5_apart_5 : ev X m_X5_apart 5 [vI x, a1] st mem = ev X m_X5_apart 6 [vI x, a1] (vI x :: st) mem := ke_iload_n rfl dX5_apart_5
theorem eX5_apart_6 : ev X m_X5_apart 6 [a0, vI x] st mem = ev X m_X5_apart 7 [a0, vI x] (vI x :: st) mem := ke_iload_n rfl dX5_apart_6
theorem eX5_apart_7 : ev X m_X5_apart 7 [a0, a1] (vI y :: vI x :: st) mem = ev X m_X5_apart 8 [a0, a1] (vI (w32 (x - y)) :: st) mem := ke_isub dX5_apart_7
theorem eX5_apart_8 : ev X m_X5_apart 8 [a0, a1] st mem = ev X m_X5_apart 14 [a0, a1] st mem := ke_goto dX5_apart_8 rfl
theorem eX5_apart_11 : ev X m_X5_apart 11 [a0, vI x] st mem = ev X m_X5_apart 12 [a0, vI x] (vI x :: st) mem := ke_iload_n rfl dX5_apart_11
theorem eX5_apart_12 : ev X m_X5_apart 12 [vI x, a1] st mem = ev X m_X5_apart 13 [vI x, a1] (vI x :: st) mem := ke_iload_n rfl dX5_apart_12
theorem eX5_apart_13 : ev X m_X5_apart 13 [a0, a1] (vI y :: vI x :: st) mem = ev X m_X5_apart 14 [a0, a1] (vI (w32 (x - y)) :: st) mem := ke_isub dX5_apart_13
theorem eX5_apart_14 : ev X m_X5_apart 14 [a0, a1] [vI x] mem = some (some (vI x), mem) := ke_ireturn dX5_apart_14 rfl
theorem eX5_isCarrying_0 : ev X m_X5_isCarrying 0 [a0, a1, a2] st mem = ev X m_X5_isCarrying 1 [a0, a1, a2] (vI 0 :: st) mem := ke_iconst (by decide) dX5_isCarrying_0
theorem eX5_isCarrying_1 : ev X m_X5_isCarrying 1 [a0, a1, a2] (vI x :: st) mem = ev X m_X5_isCarrying 2 [a0, a1, vI x] st mem := ke_istore_n (Nat.le_of_ble_eq_true rfl) rfl dX5_isCarrying_1
theorem eX5_isCarrying_2 : ev X m_X5_isCarrying 2 [a0, a1, vI x] st mem = ev X m_X5_isCarrying 3 [a0, a1, vI x] (vI x :: st) mem := ke_iload_n rfl dX5_isCarrying_2
theorem eX5_isCarrying_3 : ev X m_X5_isCarrying 3 [vR r, a1, a2] st mem = ev X m_X5_isCarrying 4 [vR r, a1, a2] (vR r :: st) mem := ke_aload_n rfl dX5_isCarrying_3
theorem eX5_isCarrying_4 : ev X m_X5_isCarrying 4 [a0, a1, a2] (vR r :: st) mem = evb X (fget mem r 5 12) m_X5_isCarrying 7 [a0, a1, a2] st mem := ke_getf rfl dX5_isCarrying_4
theorem eX5_isCarrying_7 : ev X m_X5_isCarrying 7 [a0, a1, a2] (vI y :: vI x :: st) mem = if x < y then ev X m_X5_isCarrying 10 [a0, a1, a2] st mem else ev X m_X5_isCarrying 38 [a0, a1, a2] st mem := ke_icmp_ge dX5_isCarrying_7 rfl
theorem eX5_isCarrying_10 : ev X m_X5_isCarrying 10 [vR r, a1, a2] st mem = ev X m_X5_isCarrying 11 [vR r, a1, a2] (vR r :: st) mem := ke_aload_n rfl dX5_isCarrying_10
theorem eX5_isCarrying_11 : ev X m_X5_isCarrying 11 [a0, a1, a2] (vR r :: st) mem = evb X (fget mem r 5 8) m_X5_isCarrying 14 [a0, a1, a2] st mem := ke_getf rfl dX5_isCarrying_11
theorem eX5_isCarrying_14 : ev X m_X5_isCarrying 14 [a0, a1, vI x] st mem = ev X m_X5_isCarrying 15 [a0, a1, vI x] (vI x :: st) mem := ke_iload_n rfl dX5_isCarrying_14
theorem eX5_isCarrying_15 : ev X m_X5_isCarrying 15 [a0, a1, a2] (vI x :: vR r :: st) mem = evb X (aget mem r x) m_X5_isCarrying 16 [a0, a1, a2] st mem := ke_iaload dX5_isCarrying_15
theorem eX5_isCarrying_16 : ev X m_X5_isCarrying 16 [a0, a1, a2] st mem = ev X m_X5_isCarrying 17 [a0, a1, a2] (vI 1 :: st) mem := ke_iconst (by decide) dX5_isCarrying_16
theorem eX5_isCarrying_17 : ev X m_X5_isCarrying 17 [a0, a1, a2] (vI y :: vI x :: st) mem = if x = y then ev X m_X5_isCarrying 20 [a0, a1, a2] st mem else ev X m_X5_isCarrying 32 [a0, a1, a2] st mem := ke_icmp_ne dX5_isCarrying_17 rfl
theorem eX5_isCarrying_20 : ev X m_X5_isCarrying 20 [vR r, a1, a2] st mem = ev X m_X5_isCarrying 21 [vR r, a1, a2] (vR r :: st) mem := ke_aload_n rfl dX5_isCarrying_20
theorem eX5_isCarrying_21 : ev X m_X5_isCarrying 21 [a0, a1, a2] (vR r :: st) mem = evb X (fget mem r 5 10) m_X5_isCarrying 24 [a0, a1, a2] st mem := ke_getf rfl dX5_isCarrying_21
theorem eX5_isCarrying_24 : ev X m_X5_isCarrying 24 [a0, a1, vI x] st mem = ev X m_X5_isCarrying 25 [a0, a1, vI x] (vI x :: st) mem := ke_iload_n rfl dX5_isCarrying_24
theorem eX5_isCarrying_25 : ev X m_X5_isCarrying 25 [a0, a1, a2] (vI x :: vR r :: st) mem = evb X (aget mem r x) m_X5_isCarrying 26 [a0, a1, a2] st mem := ke_iaload dX5_isCarrying_25
theorem eX5_isCarrying_26 : ev X m_X5_isCarrying 26 [a0, vI x, a2] st mem = ev X m_X5_isCarrying 27 [a0, vI x, a2] (vI x :: st) mem := ke_iload_n rfl dX5_isCarrying_26
theorem eX5_isCarrying_27 : ev X m_X5_isCarrying 27 [a0, a1, a2] (vI y :: vI x :: st) mem = if x = y then ev X m_X5_isCarrying 30 [a0, a1, a2] st mem else ev X m_X5_isCarrying 32 [a0, a1, a2] st mem := ke_icmp_ne dX5_isCarrying_27 rfl
theorem eX5_isCarrying_30 : ev X m_X5_isCarrying 30 [a0, a1, a2] st mem = ev X m_X5_isCarrying 31 [a0, a1, a2] (vI 1 :: st) mem := ke_iconst (by decide) dX5_isCarrying_30
theorem eX5_isCarrying_31a : ev X m_X5_isCarrying 31 [a0, a1, a2] [vI 1] mem = some (some (vI 1), mem) := ke_zreturn dX5_isCarrying_31 rfl rfl
theorem eX5_isCarrying_31b : ev X m_X5_isCarrying 31 [a0, a1, a2] [vI 0] mem = some (some (vI 0), mem) := ke_zreturn dX5_isCarrying_31 rfl rfl
theorem eX5_isCarrying_31c {c : Prop} [Decidable c] : ev X m_X5_isCarrying 31 [a0, a1, a2] [vI (if c then 1 else 0)] mem = some (some (vI (if c then 1 else 0)), mem) := ke_zreturn dX5_isCarrying_31 rfl (by split <;> rfl)
theorem eX5_isCarrying_32 : ev X m_X5_isCarrying 32 [a0, a1, vI x] st mem = ev X m_X5_isCarrying 35 [a0, a1, vI (w32 (x + 1))] st mem := ke_iinc rfl (Nat.le_of_ble_eq_true rfl) rfl dX5_isCarrying_32
theorem eX5_isCarrying_35 : ev X m_X5_isCarrying 35 [a0, a1, a2] st mem = ev X m_X5_isCarrying 2 [a0, a1, a2] st mem := ke_goto dX5_isCarrying_35 rfl
theorem eX5_isCarrying_38 : ev X m_X5_isCarrying 38 [a0, a1, a2] st mem = ev X m_X5_isCarrying 39 [a0, a1, a2] (vI 0 :: st) mem := ke_iconst (by decide) dX5_isCarrying_38
theorem eX5_isCarrying_39a : ev X m_X5_isCarrying 39 [a0, a1, a2] [vI 1] mem = some (some (vI 1), mem) := ke_zreturn dX5_isCarrying_39 rfl rfl
theorem eX5_isCarrying_39b : ev X m_X5_isCarrying 39 [a0, a1, a2] [vI 0] mem = some (some (vI 0), mem) := ke_zreturn dX5_isCarrying_39 rfl rfl
theorem eX5_isCarrying_39c {c : Prop} [Decidable c] : ev X m_X5_isCarrying 39 [a0, a1, a2] [vI (if c then 1 else 0)] mem = some (some (vI (if c then 1 else 0)), mem) := ke_zreturn dX5_isCarrying_39 rfl (by split <;> rfl)
theorem eX5_milesOf_0 : ev X m_X5_milesOf 0 [vR r, a1] st mem = ev X m_X5_milesOf 1 [vR r, a1] (vR r :: st) mem := ke_aload_n rfl dX5_milesOf_0
theorem eX5_milesOf_1 : ev X m_X5_milesOf 1 [a0, a1] (vR r :: st) mem = evb X (fget mem r 5 1) m_X5_milesOf 4 [a0, a1] st mem := ke_getf rfl dX5_milesOf_1
theorem eX5_milesOf_4 : ev X m_X5_milesOf 4 [a0, vI x] st mem = ev X m_X5_milesOf 5 [a0, vI x] (vI x :: st) mem := ke_iload_n rfl dX5_milesOf_4
theorem eX5_milesOf_5 : ev X m_X5_milesOf 5 [a0, a1] (vI x :: vR r :: st) mem = evb X (aget mem r x) m_X5_milesOf 6 [a0, a1] st mem := ke_iaload dX5_milesOf_5
theorem eX5_milesOf_6 : ev X m_X5_milesOf 6 [a0, a1] (vI x :: st) mem = if x = 0 then ev X m_X5_milesOf 9 [a0, a1] st mem else ev X m_X5_milesOf 13 [a0, a1] st mem := ke_if_ne dX5_milesOf_6 rfl
theorem eX5_milesOf_9 : ev X m_X5_milesOf 9 [a0, a1] st mem = ev X m_X5_milesOf 10 [a0, a1] (vI 2 :: st) mem := ke_iconst (by decide) dX5_milesOf_9
theorem eX5_milesOf_10 : ev X m_X5_milesOf 10 [a0, a1] st mem = ev X m_X5_milesOf 42 [a0, a1] st mem := ke_goto dX5_milesOf_10 rfl
theorem eX5_milesOf_13 : ev X m_X5_milesOf 13 [vR r, a1] st mem = ev X m_X5_milesOf 14 [vR r, a1] (vR r :: st) mem := ke_aload_n rfl dX5_milesOf_13
theorem eX5_milesOf_14 : ev X m_X5_milesOf 14 [a0, a1] (vR r :: st) mem = evb X (fget mem r 5 1) m_X5_milesOf 17 [a0, a1] st mem := ke_getf rfl dX5_milesOf_14
theorem eX5_milesOf_17 : ev X m_X5_milesOf 17 [a0, vI x] st mem = ev X m_X5_milesOf 18 [a0, vI x] (vI x :: st) mem := ke_iload_n rfl dX5_milesOf_17
theorem eX5_milesOf_18 : ev X m_X5_milesOf 18 [a0, a1] (vI x :: vR r :: st) mem = evb X (aget mem r x) m_X5_milesOf 19 [a0, a1] st mem := ke_iaload dX5_milesOf_18
theorem eX5_milesOf_19 : ev X m_X5_milesOf 19 [a0, a1] st mem = ev X m_X5_milesOf 20 [a0, a1] (vI 1 :: st) mem := ke_iconst (by decide) dX5_milesOf_19
theorem eX5_milesOf_20 : ev X m_X5_milesOf 20 [a0, a1] (vI y :: vI x :: st) mem = if x = y then ev X m_X5_milesOf 23 [a0, a1] st mem else ev X m_X5_milesOf 27 [a0, a1] st mem := ke_icmp_ne dX5_milesOf_20 rfl
theorem eX5_milesOf_23 : ev X m_X5_milesOf 23 [a0, a1] st mem = ev X m_X5_milesOf 24 [a0, a1] (vI 1 :: st) mem := ke_iconst (by decide) dX5_milesOf_23
theorem eX5_milesOf_24 : ev X m_X5_milesOf 24 [a0, a1] st mem = ev X m_X5_milesOf 42 [a0, a1] st mem := ke_goto dX5_milesOf_24 rfl
theorem eX5_milesOf_27 : ev X m_X5_milesOf 27 [vR r, a1] st mem = ev X m_X5_milesOf 28 [vR r, a1] (vR r :: st) mem := ke_aload_n rfl dX5_milesOf_27
theorem eX5_milesOf_28 : ev X m_X5_milesOf 28 [a0, a1] (vR r :: st) mem = evb X (fget mem r 5 1) m_X5_milesOf 31 [a0, a1] st mem := ke_getf rfl dX5_milesOf_28
theorem eX5_milesOf_31 : ev X m_X5_milesOf 31 [a0, vI x] st mem = ev X m_X5_milesOf 32 [a0, vI x] (vI x :: st) mem := ke_iload_n rfl dX5_milesOf_31
theorem eX5_milesOf_32 : ev X m_X5_milesOf 32 [a0, a1] (vI x :: vR r :: st) mem = evb X (aget mem r x) m_X5_milesOf 33 [a0, a1] st mem := ke_iaload dX5_milesOf_32
theorem eX5_milesOf_33 : ev X m_X5_milesOf 33 [a0, a1] st mem = ev X m_X5_milesOf 34 [a0, a1] (vI 5 :: st) mem := ke_iconst (by decide) dX5_milesOf_33
theorem eX5_milesOf_34 : ev X m_X5_milesOf 34 [a0, a1] (vI y :: vI x :: st) mem = if x = y then ev X m_X5_milesOf 37 [a0, a1] st mem else ev X m_X5_milesOf 41 [a0, a1] st mem := ke_icmp_ne dX5_milesOf_34 rfl
theorem eX5_milesOf_37 : ev X m_X5_milesOf 37 [a0, a1] st mem = ev X m_X5_milesOf 38 [a0, a1] (vI 4 :: st) mem := ke_iconst (by decide) dX5_milesOf_37
theorem eX5_milesOf_38 : ev X m_X5_milesOf 38 [a0, a1] st mem = ev X m_X5_milesOf 42 [a0, a1] st mem := ke_goto dX5_milesOf_38 rfl
theorem eX5_milesOf_41 : ev X m_X5_milesOf 41 [a0, a1] st mem = ev X m_X5_milesOf 42 [a0, a1] (vI 3 :: st) mem := ke_iconst (by decide) dX5_milesOf_41
theorem eX5_milesOf_42 : ev X m_X5_milesOf 42 [a0, a1] [vI x] mem = some (some (vI x), mem) := ke_ireturn dX5_milesOf_42 rfl
theorem eX5_comesTwo_0 : ev X m_X5_comesTwo 0 [vR r, a1, a2, a3, a4] st mem = ev X m_X5_comesTwo 1 [vR r, a1, a2, a3, a4] (vR r :: st) mem := ke_aload_n rfl dX5_comesTwo_0
theorem eX5_comesTwo_1 : ev X m_X5_comesTwo 1 [a0, a1, vI x, a3, a4] st mem = ev X m_X5_comesTwo 2 [a0, a1, vI x, a3, a4] (vI x :: st) mem := ke_iload_n rfl dX5_comesTwo_1
theorem eX5_comesTwo_2 : ev X m_X5_comesTwo 2 [a0, a1, a2, vI x, a4] st mem = ev X m_X5_comesTwo 3 [a0, a1, a2, vI x, a4] (vI x :: st) mem := ke_iload_n rfl dX5_comesTwo_2
theorem eX5_comesTwo_3 : ev X m_X5_comesTwo 3 [a0, a1, a2, a3, a4] (vI n1 :: vI n0 :: vR r :: []) mem = evc X (gR mem r 5 (ev X m_X5_areTwo 0 [vR r, vI n0, vI n1] [] mem)) m_X5_comesTwo 6 [a0, a1, a2, a3, a4] [] := ke_callV (m' := m_X5_areTwo) (as := [vI n0, vI n1]) (n := 2) (rest := []) dX5_comesTwo_3 rfl rfl rfl rfl rfl rfl (Nat.le_of_ble_eq_true rfl) (Nat.le_of_ble_eq_true rfl) (Nat.le_of_ble_eq_true rfl) rfl
theorem eX5_comesTwo_6 : ev X m_X5_comesTwo 6 [a0, a1, a2, a3, a4] (vI x :: st) mem = if x = 0 then ev X m_X5_comesTwo 9 [a0, a1, a2, a3, a4] st mem else ev X m_X5_comesTwo 11 [a0, a1, a2, a3, a4] st mem := ke_if_ne dX5_comesTwo_6 rfl
theorem eX5_comesTwo_9 : ev X m_X5_comesTwo 9 [a0, a1, a2, a3, a4] st mem = ev X m_X5_comesTwo 10 [a0, a1, a2, a3, a4] (vI 0 :: st) mem := ke_iconst (by decide) dX5_comesTwo_9
theorem eX5_comesTwo_10a : ev X m_X5_comesTwo 10 [a0, a1, a2, a3, a4] [vI 1] mem = some (some (vI 1), mem) := ke_zreturn dX5_comesTwo_10 rfl rfl
theorem eX5_comesTwo_10b : ev X m_X5_comesTwo 10 [a0, a1, a2, a3, a4] [vI 0] mem = some (some (vI 0), mem) := ke_zreturn dX5_comesTwo_10 rfl rfl
theorem eX5_comesTwo_10c {c : Prop} [Decidable c] : ev X m_X5_comesTwo 10 [a0, a1, a2, a3, a4] [vI (if c then 1 else 0)] mem = some (some (vI (if c then 1 else 0)), mem) := ke_zreturn dX5_comesTwo_10 rfl (by split <;> rfl)
theorem eX5_comesTwo_11 : ev X m_X5_comesTwo 11 [a0, vI x, a2, a3, a4] st mem = ev X m_X5_comesTwo 12 [a0, vI x, a2, a3, a4] (vI x :: st) mem := ke_iload_n rfl dX5_comesTwo_11
theorem eX5_comesTwo_12 : ev X m_X5_comesTwo 12 [a0, a1, a2, a3, a4] st mem = ev X m_X5_comesTwo 14 [a0, a1, a2, a3, a4] (vI 104 :: st) mem := ke_bipush (by decide) dX5_comesTwo_12
theorem eX5_comesTwo_14 : ev X m_X5_comesTwo 14 [a0, a1, a2, a3, a4] (vI y :: vI x :: st) mem = if x = y then ev X m_X5_comesTwo 17 [a0, a1, a2, a3, a4] st mem else ev X m_X5_comesTwo 32 [a0, a1, a2, a3, a4] st mem := ke_icmp_ne dX5_comesTwo_14 rfl
theorem eX5_comesTwo_17 : ev X m_X5_comesTwo 17 [vR r, a1, a2, a3, a4] st mem = ev X m_X5_comesTwo 18 [vR r, a1, a2, a3, a4] (vR r :: st) mem := ke_aload_n rfl dX5_comesTwo_17
theorem eX5_comesTwo_18 : ev X m_X5_comesTwo 18 [a0, a1, a2, a3, a4] (vR r :: st) mem = evb X (fget mem r 5 5) m_X5_comesTwo 21 [a0, a1, a2, a3, a4] st mem := ke_getf rfl dX5_comesTwo_18
theorem eX5_comesTwo_21 : ev X m_X5_comesTwo 21 [a0, a1, vI x, a3, a4] st mem = ev X m_X5_comesTwo 22 [a0, a1, vI x, a3, a4] (vI x :: st) mem := ke_iload_n rfl dX5_comesTwo_21
theorem eX5_comesTwo_22 : ev X m_X5_comesTwo 22 [a0, a1, a2, vI x, a4] st mem = ev X m_X5_comesTwo 23 [a0, a1, a2, vI x, a4] (vI x :: st) mem := ke_iload_n rfl dX5_comesTwo_22
theorem eX5_comesTwo_23 : ev X m_X5_comesTwo 23 [a0, a1, a2, a3, a4] (vI n1 :: vI n0 :: [s0]) mem = evc X (ev X m_X5_spot 0 [vI n0, vI n1] [] mem) m_X5_comesTwo 26 [a0, a1, a2, a3, a4] [s0] := ke_callS (m' := m_X5_spot) (as := [vI n0, vI n1]) (n := 2) (rest := [s0]) dX5_comesTwo_23 rfl (by decide) rfl rfl rfl rfl rfl (Nat.le_of_ble_eq_true rfl) (Nat.le_of_ble_eq_true rfl) rfl
theorem eX5_comesTwo_26 : ev X m_X5_comesTwo 26 [a0, a1, a2, a3, vI x] st mem = ev X m_X5_comesTwo 28 [a0, a1, a2, a3, vI x] (vI x :: st) mem := ke_iload rfl dX5_comesTwo_26
theorem eX5_comesTwo_28 : ev X m_X5_comesTwo 28 [a0, a1, a2, a3, a4] (vI y :: vI x :: vR r :: st) mem = evm X (aput mem r x y) m_X5_comesTwo 29 [a0, a1, a2, a3, a4] st := ke_iastore dX5_comesTwo_28
theorem eX5_comesTwo_29 : ev X m_X5_comesTwo 29 [a0, a1, a2, a3, a4] st mem = ev X m_X5_comesTwo 54 [a0, a1, a2, a3, a4] st mem := ke_goto dX5_comesTwo_29 rfl
theorem eX5_comesTwo_32 : ev X m_X5_comesTwo 32 [a0, vI x, a2, a3, a4] st mem = ev X m_X5_comesTwo 33 [a0, vI x, a2, a3, a4] (vI x :: st) mem := ke_iload_n rfl dX5_comesTwo_32
theorem eX5_comesTwo_33 : ev X m_X5_comesTwo 33 [a0, a1, a2, a3, a4] st mem = ev X m_X5_comesTwo 35 [a0, a1, a2, a3, a4] (vI 115 :: st) mem := ke_bipush (by decide) dX5_comesTwo_33
theorem eX5_comesTwo_35 : ev X m_X5_comesTwo 35 [a0, a1, a2, a3, a4] (vI y :: vI x :: st) mem = if x = y then ev X m_X5_comesTwo 38 [a0, a1, a2, a3, a4] st mem else ev X m_X5_comesTwo 48 [a0, a1, a2, a3, a4] st mem := ke_icmp_ne dX5_comesTwo_35 rfl
theorem eX5_comesTwo_38 : ev X m_X5_comesTwo 38 [vR r, a1, a2, a3, a4] st mem = ev X m_X5_comesTwo 39 [vR r, a1, a2, a3, a4] (vR r :: st) mem := ke_aload_n rfl dX5_comesTwo_38
theorem eX5_comesTwo_39 : ev X m_X5_comesTwo 39 [a0, a1, vI x, a3, a4] st mem = ev X m_X5_comesTwo 40 [a0, a1, vI x, a3, a4] (vI x :: st) mem := ke_iload_n rfl dX5_comesTwo_39
theorem eX5_comesTwo_40 : ev X m_X5_comesTwo 40 [a0, a1, a2, vI x, a4] st mem = ev X m_X5_comesTwo 41 [a0, a1, a2, vI x, a4] (vI x :: st) mem := ke_iload_n rfl dX5_comesTwo_40
theorem eX5_comesTwo_41 : ev X m_X5_comesTwo 41 [a0, a1, a2, a3, a4] st mem = ev X m_X5_comesTwo 42 [a0, a1, a2, a3, a4] (vI 1 :: st) mem := ke_iconst (by decide) dX5_comesTwo_41
theorem eX5_comesTwo_42 : ev X m_X5_comesTwo 42 [a0, a1, a2, a3, a4] (vI n2 :: vI n1 :: vI n0 :: vR r :: []) mem = evc X (gR mem r 5 (ev X m_X5_slighted 0 [vR r, vI n0, vI n1, vI n2] [] mem)) m_X5_comesTwo 45 [a0, a1, a2, a3, a4] [] := ke_callV (m' := m_X5_slighted) (as := [vI n0, vI n1, vI n2]) (n := 3) (rest := []) dX5_comesTwo_42 rfl rfl rfl rfl rfl rfl (Nat.le_of_ble_eq_true rfl) (Nat.le_of_ble_eq_true rfl) (Nat.le_of_ble_eq_true rfl) rfl
theorem eX5_comesTwo_45 : ev X m_X5_comesTwo 45 [a0, a1, a2, a3, a4] st mem = ev X m_X5_comesTwo 54 [a0, a1, a2, a3, a4] st mem := ke_goto dX5_comesTwo_45 rfl
theorem eX5_comesTwo_48 : ev X m_X5_comesTwo 48 [vR r, a1, a2, a3, a4] st mem = ev X m_X5_comesTwo 49 [vR r, a1, a2, a3, a4] (vR r :: st) mem := ke_aload_n rfl dX5_comesTwo_48
theorem eX5_comesTwo_49 : ev X m_X5_comesTwo 49 [a0, a1, vI x, a3, a4] st mem = ev X m_X5_comesTwo 50 [a0, a1, vI x, a3, a4] (vI x :: st) mem := ke_iload_n rfl dX5_comesTwo_49
theorem eX5_comesTwo_50 : ev X m_X5_comesTwo 50 [a0, a1, a2, vI x, a4] st mem = ev X m_X5_comesTwo 51 [a0, a1, a2, vI x, a4] (vI x :: st) mem := ke_iload_n rfl dX5_comesTwo_50
theorem eX5_comesTwo_51 : ev X m_X5_comesTwo 51 [a0, a1, a2, a3, a4] (vI n1 :: vI n0 :: vR r :: []) mem = evc X (gR mem r 5 (ev X m_X5_madeUp 0 [vR r, vI n0, vI n1] [] mem)) m_X5_comesTwo 54 [a0, a1, a2, a3, a4] [] := ke_callV (m' := m_X5_madeUp) (as := [vI n0, vI n1]) (n := 2) (rest := []) dX5_comesTwo_51 rfl rfl rfl rfl rfl rfl (Nat.le_of_ble_eq_true rfl) (Nat.le_of_ble_eq_true rfl) (Nat.le_of_ble_eq_true rfl) rfl
theorem eX5_comesTwo_54 : ev X m_X5_comesTwo 54 [a0, a1, a2, a3, a4] st mem = ev X m_X5_comesTwo 55 [a0, a1, a2, a3, a4] (vI 1 :: st) mem := ke_iconst (by decide) dX5_comesTwo_54
theorem eX5_comesTwo_55a : ev X m_X5_comesTwo 55 [a0, a1, a2, a3, a4] [vI 1] mem = some (some (vI 1), mem) := ke_zreturn dX5_comesTwo_55 rfl rfl
theorem eX5_comesTwo_55b : ev X m_X5_comesTwo 55 [a0, a1, a2, a3, a4] [vI 0] mem = some (some (vI 0), mem) := ke_zreturn dX5_comesTwo_55 rfl rfl
theorem eX5_comesTwo_55c {c : Prop} [Decidable c] : ev X m_X5_comesTwo 55 [a0, a1, a2, a3, a4] [vI (if c then 1 else 0)] mem = some (some (vI (if c then 1 else 0)), mem) := ke_zreturn dX5_comesTwo_55 rfl (by split <;> rfl)
theorem eX5_areTwo_0 : ev X m_X5_areTwo 0 [vR r, a1, a2] st mem = ev X m_X5_areTwo 1 [vR r, a1, a2] (vR r :: st) mem := ke_aload_n rfl dX5_areTwo_0
theorem eX5_areTwo_1 : ev X m_X5_areTwo 1 [a0, vI x, a2] st mem = ev X m_X5_areTwo 2 [a0, vI x, a2] (vI x :: st) mem := ke_iload_n rfl dX5_areTwo_1
theorem eX5_areTwo_2 : ev X m_X5_areTwo 2 [a0, a1, a2] (vI n0 :: vR r :: []) mem = evc X (gR mem r 5 (ev X m_X5_isOne 0 [vR r, vI n0] [] mem)) m_X5_areTwo 5 [a0, a1, a2] [] := ke_callV (m' := m_X5_isOne) (as := [vI n0]) (n := 1) (rest := []) dX5_areTwo_2 rfl rfl rfl rfl rfl rfl (Nat.le_of_ble_eq_true rfl) (Nat.le_of_ble_eq_true rfl) (Nat.le_of_ble_eq_true rfl) rfl
theorem eX5_areTwo_5 : ev X m_X5_areTwo 5 [a0, a1, a2] (vI x :: st) mem = if x = 0 then ev X m_X5_areTwo 25 [a0, a1, a2] st mem else ev X m_X5_areTwo 8 [a0, a1, a2] st mem := ke_if_eq dX5_areTwo_5 rfl
theorem eX5_areTwo_8 : ev X m_X5_areTwo 8 [vR r, a1, a2] st mem = ev X m_X5_areTwo 9 [vR r, a1, a2] (vR r :: st) mem := ke_aload_n rfl dX5_areTwo_8
theorem eX5_areTwo_9 : ev X m_X5_areTwo 9 [a0, a1, vI x] st mem = ev X m_X5_areTwo 10 [a0, a1, vI x] (vI x :: st) mem := ke_iload_n rfl dX5_areTwo_9
theorem eX5_areTwo_10 : ev X m_X5_areTwo 10 [a0, a1, a2] (vI n0 :: vR r :: []) mem = evc X (gR mem r 5 (ev X m_X5_isOne 0 [vR r, vI n0] [] mem)) m_X5_areTwo 13 [a0, a1, a2] [] := ke_callV (m' := m_X5_isOne) (as := [vI n0]) (n := 1) (rest := []) dX5_areTwo_10 rfl rfl rfl rfl rfl rfl (Nat.le_of_ble_eq_true rfl) (Nat.le_of_ble_eq_true rfl) (Nat.le_of_ble_eq_true rfl) rfl
theorem eX5_areTwo_13 : ev X m_X5_areTwo 13 [a0, a1, a2] (vI x :: st) mem = if x = 0 then ev X m_X5_areTwo 25 [a0, a1, a2] st mem else ev X m_X5_areTwo 16 [a0, a1, a2] st mem := ke_if_eq dX5_areTwo_13 rfl
theorem eX5_areTwo_16 : ev X m_X5_areTwo 16 [a0, vI x, a2] st mem = ev X m_X5_areTwo 17 [a0, vI x, a2] (vI x :: st) mem := ke_iload_n rfl dX5_areTwo_16
theorem eX5_areTwo_17 : ev X m_X5_areTwo 17 [a0, a1, vI x] st mem = ev X m_X5_areTwo 18 [a0, a1, vI x] (vI x :: st) mem := ke_iload_n rfl dX5_areTwo_17
theorem eX5_areTwo_18 : ev X m_X5_areTwo 18 [a0, a1, a2] (vI y :: vI x :: st) mem = if x = y then ev X m_X5_areTwo 25 [a0, a1, a2] st mem else ev X m_X5_areTwo 21 [a0, a1, a2] st mem := ke_icmp_eq dX5_areTwo_18 rfl
theorem eX5_areTwo_21 : ev X m_X5_areTwo 21 [a0, a1, a2] st mem = ev X m_X5_areTwo 22 [a0, a1, a2] (vI 1 :: st) mem := ke_iconst (by decide) dX5_areTwo_21
theorem eX5_areTwo_22 : ev X m_X5_areTwo 22 [a0, a1, a2] st mem = ev X m_X5_areTwo 26 [a0, a1, a2] st mem := ke_goto dX5_areTwo_22 rfl
theorem eX5_areTwo_25 : ev X m_X5_areTwo 25 [a0, a1, a2] st mem = ev X m_X5_areTwo 26 [a0, a1, a2] (vI 0 :: st) mem := ke_iconst (by decide) dX5_areTwo_25
theorem eX5_areTwo_26a : ev X m_X5_areTwo 26 [a0, a1, a2] [vI 1] mem = some (some (vI 1), mem) := ke_zreturn dX5_areTwo_26 rfl rfl
theorem eX5_areTwo_26b : ev X m_X5_areTwo 26 [a0, a1, a2] [vI 0] mem = some (some (vI 0), mem) := ke_zreturn dX5_areTwo_26 rfl rfl
theorem eX5_areTwo_26c {c : Prop} [Decidable c] : ev X m_X5_areTwo 26 [a0, a1, a2] [vI (if c then 1 else 0)] mem = some (some (vI (if c then 1 else 0)), mem) := ke_zreturn dX5_areTwo_26 rfl (by split <;> rfl)
theorem eX5_slighted_0 : ev X m_X5_slighted 0 [vR r, a1, a2, a3] st mem = ev X m_X5_slighted 1 [vR r, a1, a2, a3] (vR r :: st) mem := ke_aload_n rfl dX5_slighted_0
theorem eX5_slighted_1 : ev X m_X5_slighted 1 [a0, a1, a2, a3] (vR r :: st) mem = evb X (fget mem r 5 5) m_X5_slighted 4 [a0, a1, a2, a3] st mem := ke_getf rfl dX5_slighted_1
theorem eX5_slighted_4 : ev X m_X5_slighted 4 [a0, vI x, a2, a3] st mem = ev X m_X5_slighted 5 [a0, vI x, a2, a3] (vI x :: st) mem := ke_iload_n rfl dX5_slighted_4
theorem eX5_slighted_5 : ev X m_X5_slighted 5 [a0, a1, vI x, a3] st mem = ev X m_X5_slighted 6 [a0, a1, vI x, a3] (vI x :: st) mem := ke_iload_n rfl dX5_slighted_5
theorem eX5_slighted_6 : ev X m_X5_slighted 6 [a0, a1, a2, a3] (vI n1 :: vI n0 :: [s0]) mem = evc X (ev X m_X5_spot 0 [vI n0, vI n1] [] mem) m_X5_slighted 9 [a0, a1, a2, a3] [s0] := ke_callS (m' := m_X5_spot) (as := [vI n0, vI n1]) (n := 2) (rest := [s0]) dX5_slighted_6 rfl (by decide) rfl rfl rfl rfl rfl (Nat.le_of_ble_eq_true rfl) (Nat.le_of_ble_eq_true rfl) rfl
theorem eX5_slighted_9 : ev X m_X5_slighted 9 [vR r, a1, a2, a3] st mem = ev X m_X5_slighted 10 [vR r, a1, a2, a3] (vR r :: st) mem := ke_aload_n rfl dX5_slighted_9
theorem eX5_slighted_10 : ev X m_X5_slighted 10 [a0, a1, a2, a3] (vR r :: st) mem = evb X (fget mem r 5 5) m_X5_slighted 13 [a0, a1, a2, a3] st mem := ke_getf rfl dX5_slighted_10
theorem eX5_slighted_13 : ev X m_X5_slighted 13 [a0, vI x, a2, a3] st mem = ev X m_X5_slighted 14 [a0, vI x, a2, a3] (vI x :: st) mem := ke_iload_n rfl dX5_slighted_13
theorem eX5_slighted_14 : ev X m_X5_slighted 14 [a0, a1, vI x, a3] st mem = ev X m_X5_slighted 15 [a0, a1, vI x, a3] (vI x :: st) mem := ke_iload_n rfl dX5_slighted_14
theorem eX5_slighted_15 : ev X m_X5_slighted 15 [a0, a1, a2, a3] (vI n1 :: vI n0 :: [s0, s1, s2]) mem = evc X (ev X m_X5_spot 0 [vI n0, vI n1] [] mem) m_X5_slighted 18 [a0, a1, a2, a3] [s0, s1, s2] := ke_callS (m' := m_X5_spot) (as := [vI n0, vI n1]) (n := 2) (rest := [s0, s1, s2]) dX5_slighted_15 rfl (by decide) rfl rfl rfl rfl rfl (Nat.le_of_ble_eq_true rfl) (Nat.le_of_ble_eq_true rfl) rfl
theorem eX5_slighted_18 : ev X m_X5_slighted 18 [a0, a1, a2, a3] (vI x :: vR r :: st) mem = evb X (aget mem r x) m_X5_slighted 19 [a0, a1, a2, a3] st mem := ke_iaload dX5_slighted_18
theorem eX5_slighted_19 : ev X m_X5_slighted 19 [a0, a1, a2, a3] st mem = ev X m_X5_slighted 21 [a0, a1, a2, a3] (vI 10 :: st) mem := ke_bipush (by decide) dX5_slighted_19
theorem eX5_slighted_21 : ev X m_X5_slighted 21 [a0, a1, a2, vI x] st mem = ev X m_X5_slighted 22 [a0, a1, a2, vI x] (vI x :: st) mem := ke_iload_n rfl dX5_slighted_21
theorem eX5_slighted_22 : ev X m_X5_slighted 22 [a0, a1, a2, a3] (vI y :: vI x :: st) mem = ev X m_X5_slighted 23 [a0, a1, a2, a3] (vI (w32 (x * y)) :: st) mem := ke_imul dX5_slighted_22
theorem eX5_slighted_23 : ev X m_X5_slighted 23 [a0, a1, a2, a3] (vI y :: vI x :: st) mem = ev X m_X5_slighted 24 [a0, a1, a2, a3] (vI (w32 (x + y)) :: st) mem := ke_iadd dX5_slighted_23
theorem eX5_slighted_24 : ev X m_X5_slighted 24 [a0, a1, a2, a3] st mem = ev X m_X5_slighted 25 [a0, a1, a2, a3] (vI 0 :: st) mem := ke_iconst (by decide) dX5_slighted_24
theorem eX5_slighted_25 : ev X m_X5_slighted 25 [a0, a1, a2, a3] st mem = ev X m_X5_slighted 27 [a0, a1, a2, a3] (vI 99 :: st) mem := ke_bipush (by decide) dX5_slighted_25
theorem eX5_slighted_27 : ev X m_X5_slighted 27 [a0, a1, a2, a3] (vI n2 :: vI n1 :: vI n0 :: [s0, s1]) mem = evc X (ev X m_X5_held 0 [vI n0, vI n1, vI n2] [] mem) m_X5_slighted 30 [a0, a1, a2, a3] [s0, s1] := ke_callS (m' := m_X5_held) (as := [vI n0, vI n1, vI n2]) (n := 3) (rest := [s0, s1]) dX5_slighted_27 rfl (by decide) rfl rfl rfl rfl rfl (Nat.le_of_ble_eq_true rfl) (Nat.le_of_ble_eq_true rfl) rfl
theorem eX5_slighted_30 : ev X m_X5_slighted 30 [a0, a1, a2, a3] (vI y :: vI x :: vR r :: st) mem = evm X (aput mem r x y) m_X5_slighted 31 [a0, a1, a2, a3] st := ke_iastore dX5_slighted_30
theorem eX5_slighted_31 : ev X m_X5_slighted 31 [a0, a1, a2, a3] [] mem = some (none, mem) := ke_return dX5_slighted_31 rfl
theorem eX5_madeUp_0 : ev X m_X5_madeUp 0 [vR r, a1, a2] st mem = ev X m_X5_madeUp 1 [vR r, a1, a2] (vR r :: st) mem := ke_aload_n rfl dX5_madeUp_0
theorem eX5_madeUp_1 : ev X m_X5_madeUp 1 [a0, a1, a2] (vR r :: st) mem = evb X (fget mem r 5 5) m_X5_madeUp 4 [a0, a1, a2] st mem := ke_getf rfl dX5_madeUp_1
theorem eX5_madeUp_4 : ev X m_X5_madeUp 4 [a0, vI x, a2] st mem = ev X m_X5_madeUp 5 [a0, vI x, a2] (vI x :: st) mem := ke_iload_n rfl dX5_madeUp_4
theorem eX5_madeUp_5 : ev X m_X5_madeUp 5 [a0, a1, vI x] st mem = ev X m_X5_madeUp 6 [a0, a1, vI x] (vI x :: st) mem := ke_iload_n rfl dX5_madeUp_5
theorem eX5_madeUp_6 : ev X m_X5_madeUp 6 [a0, a1, a2] (vI n1 :: vI n0 :: [s0]) mem = evc X (ev X m_X5_spot 0 [vI n0, vI n1] [] mem) m_X5_madeUp 9 [a0, a1, a2] [s0] := ke_callS (m' := m_X5_spot) (as := [vI n0, vI n1]) (n := 2) (rest := [s0]) dX5_madeUp_6 rfl (by decide) rfl rfl rfl rfl rfl (Nat.le_of_ble_eq_true rfl) (Nat.le_of_ble_eq_true rfl) rfl
theorem eX5_madeUp_9 : ev X m_X5_madeUp 9 [a0, a1, a2] (vI x :: vR r :: st) mem = ev X m_X5_madeUp 10 [a0, a1, a2] (vI x :: vR r :: vI x :: vR r :: st) mem := ke_dup2 dX5_madeUp_9
theorem eX5_madeUp_10 : ev X m_X5_madeUp 10 [a0, a1, a2] (vI x :: vR r :: st) mem = evb X (aget mem r x) m_X5_madeUp 11 [a0, a1, a2] st mem := ke_iaload dX5_madeUp_10
theorem eX5_madeUp_11 : ev X m_X5_madeUp 11 [a0, a1, a2] st mem = ev X m_X5_madeUp 12 [a0, a1, a2] (vI 2 :: st) mem := ke_iconst (by decide) dX5_madeUp_11
theorem eX5_madeUp_12 : ev X m_X5_madeUp 12 [a0, a1, a2] (vI y :: vI x :: st) mem = if y = 0 then none else ev X m_X5_madeUp 13 [a0, a1, a2] (vI (w32 (x.tdiv y)) :: st) mem := ke_idiv dX5_madeUp_12
theorem eX5_madeUp_13 : ev X m_X5_madeUp 13 [a0, a1, a2] (vI y :: vI x :: vR r :: st) mem = evm X (aput mem r x y) m_X5_madeUp 14 [a0, a1, a2] st := ke_iastore dX5_madeUp_13
theorem eX5_madeUp_14 : ev X m_X5_madeUp 14 [vR r, a1, a2] st mem = ev X m_X5_madeUp 15 [vR r, a1, a2] (vR r :: st) mem := ke_aload_n rfl dX5_madeUp_14
theorem eX5_madeUp_15 : ev X m_X5_madeUp 15 [a0, a1, a2] (vR r :: st) mem = evb X (fget mem r 5 5) m_X5_madeUp 18 [a0, a1, a2] st mem := ke_getf rfl dX5_madeUp_15
theorem eX5_madeUp_18 : ev X m_X5_madeUp 18 [a0, a1, vI x] st mem = ev X m_X5_madeUp 19 [a0, a1, vI x] (vI x :: st) mem := ke_iload_n rfl dX5_madeUp_18
theorem eX5_madeUp_19 : ev X m_X5_madeUp 19 [a0, vI x, a2] st mem = ev X m_X5_madeUp 20 [a0, vI x, a2] (vI x :: st) mem := ke_iload_n rfl dX5_madeUp_19
theorem eX5_madeUp_20 : ev X m_X5_madeUp 20 [a0, a1, a2] (vI n1 :: vI n0 :: [s0]) mem = evc X (ev X m_X5_spot 0 [vI n0, vI n1] [] mem) m_X5_madeUp 23 [a0, a1, a2] [s0] := ke_callS (m' := m_X5_spot) (as := [vI n0, vI n1]) (n := 2) (rest := [s0]) dX5_madeUp_20 rfl (by decide) rfl rfl rfl rfl rfl (Nat.le_of_ble_eq_true rfl) (Nat.le_of_ble_eq_true rfl) rfl
theorem eX5_madeUp_23 : ev X m_X5_madeUp 23 [a0, a1, a2] (vI x :: vR r :: st) mem = ev X m_X5_madeUp 24 [a0, a1, a2] (vI x :: vR r :: vI x :: vR r :: st) mem := ke_dup2 dX5_madeUp_23
theorem eX5_madeUp_24 : ev X m_X5_madeUp 24 [a0, a1, a2] (vI x :: vR r :: st) mem = evb X (aget mem r x) m_X5_madeUp 25 [a0, a1, a2] st mem := ke_iaload dX5_madeUp_24
theorem eX5_madeUp_25 : ev X m_X5_madeUp 25 [a0, a1, a2] st mem = ev X m_X5_madeUp 26 [a0, a1, a2] (vI 2 :: st) mem := ke_iconst (by decide) dX5_madeUp_25
theorem eX5_madeUp_26 : ev X m_X5_madeUp 26 [a0, a1, a2] (vI y :: vI x :: st) mem = if y = 0 then none else ev X m_X5_madeUp 27 [a0, a1, a2] (vI (w32 (x.tdiv y)) :: st) mem := ke_idiv dX5_madeUp_26
theorem eX5_madeUp_27 : ev X m_X5_madeUp 27 [a0, a1, a2] (vI y :: vI x :: vR r :: st) mem = evm X (aput mem r x y) m_X5_madeUp 28 [a0, a1, a2] st := ke_iastore dX5_madeUp_27
theorem eX5_madeUp_28 : ev X m_X5_madeUp 28 [a0, a1, a2] [] mem = some (none, mem) := ke_return dX5_madeUp_28 rfl
theorem eX5_image_0 : ev X m_X5_image 0 [vR r] st mem = ev X m_X5_image 1 [vR r] (vR r :: st) mem := ke_aload_n rfl dX5_image_0
theorem eX5_image_1 : ev X m_X5_image 1 [a0] st mem = ev X m_X5_image 2 [a0] (vI 1 :: st) mem := ke_iconst (by decide) dX5_image_1
theorem eX5_image_2 (hz : x = 0 ∨ x = 1) : ev X m_X5_image 2 [a0] (vI x :: vR r :: st) mem = evm X (fput mem r 5 22 (vI x)) m_X5_image 5 [a0] st := ke_putz rfl (by decide +kernel) hz dX5_image_2
theorem eX5_image_5 : ev X m_X5_image 5 [vR r] st mem = ev X m_X5_image 6 [vR r] (vR r :: st) mem := ke_aload_n rfl dX5_image_5
theorem eX5_image_6 : ev X m_X5_image 6 [a0] st mem = ev X m_X5_image 7 [a0] (vI 0 :: st) mem := ke_iconst (by decide) dX5_image_6
theorem eX5_image_7 : ev X m_X5_image 7 [a0] st mem = ev X m_X5_image 8 [a0] (vI 1 :: st) mem := ke_iconst (by decide) dX5_image_7
theorem eX5_image_8 : ev X m_X5_image 8 [a0] (vI n1 :: vI n0 :: vR r :: []) mem = evc X (gR mem r 5 (ev X m_X5_passesAll 0 [vR r, vI n0, vI n1] [] mem)) m_X5_image 11 [a0] [] := ke_callV (m' := m_X5_passesAll) (as := [vI n0, vI n1]) (n := 2) (rest := []) dX5_image_8 rfl rfl rfl rfl rfl rfl (Nat.le_of_ble_eq_true rfl) (Nat.le_of_ble_eq_true rfl) (Nat.le_of_ble_eq_true rfl) rfl
theorem eX5_image_11 : ev X m_X5_image 11 [vR r] st mem = ev X m_X5_image 12 [vR r] (vR r :: st) mem := ke_aload_n rfl dX5_image_11
theorem eX5_image_12 : ev X m_X5_image 12 [a0] (vR r :: st) mem = evb X (fget mem r 5 13) m_X5_image 15 [a0] st mem := ke_getf rfl dX5_image_12
theorem eX5_image_15 : ev X m_X5_image 15 [a0] [vI x] mem = some (some (vI x), mem) := ke_ireturn dX5_image_15 rfl
theorem eX5_on_0 : ev X m_X5_on 0 [vR r] st mem = ev X m_X5_on 1 [vR r] (vR r :: st) mem := ke_aload_n rfl dX5_on_0
theorem eX5_on_1 : ev X m_X5_on 1 [a0] (vR r :: st) mem = evb X (fget mem r 5 22) m_X5_on 4 [a0] st mem := ke_getf rfl dX5_on_1
theorem eX5_on_4 : ev X m_X5_on 4 [a0] (vI x :: st) mem = if x = 0 then ev X m_X5_on 7 [a0] st mem else ev X m_X5_on 14 [a0] st mem := ke_if_ne dX5_on_4 rfl
theorem eX5_on_7 : ev X m_X5_on 7 [vR r] st mem = ev X m_X5_on 8 [vR r] (vR r :: st) mem := ke_aload_n rfl dX5_on_7
theorem eX5_on_8 : ev X m_X5_on 8 [a0] st mem = ev X m_X5_on 10 [a0] (vI (-3) :: st) mem := ke_bipush (by decide) dX5_on_8
theorem eX5_on_10 : ev X m_X5_on 10 [a0] (vI n0 :: vR r :: []) mem = evc X (gR mem r 5 (ev X m_X5_no 0 [vR r, vI n0] [] mem)) m_X5_on 13 [a0] [] := ke_callV (m' := m_X5_no) (as := [vI n0]) (n := 1) (rest := []) dX5_on_10 rfl rfl rfl rfl rfl rfl (Nat.le_of_ble_eq_true rfl) (Nat.le_of_ble_eq_true rfl) (Nat.le_of_ble_eq_true rfl) rfl
theorem eX5_on_13 : ev X m_X5_on 13 [a0] [vI x] mem = some (some (vI x), mem) := ke_ireturn dX5_on_13 rfl
theorem eX5_on_14 : ev X m_X5_on 14 [vR r] st mem = ev X m_X5_on 15 [vR r] (vR r :: st) mem := ke_aload_n rfl dX5_on_14
theorem eX5_on_15 : ev X m_X5_on 15 [a0] st mem = ev X m_X5_on 16 [a0] (vI 0 :: st) mem := ke_iconst (by decide) dX5_on_15
theorem eX5_on_16 : ev X m_X5_on 16 [a0] st mem = ev X m_X5_on 17 [a0] (vI 0 :: st) mem := ke_iconst (by decide) dX5_on_16
theorem eX5_on_17 : ev X m_X5_on 17 [a0] (vI n1 :: vI n0 :: vR r :: []) mem = evc X (gR mem r 5 (ev X m_X5_passesAll 0 [vR r, vI n0, vI n1] [] mem)) m_X5_on 20 [a0] [] := ke_callV (m' := m_X5_passesAll) (as := [vI n0, vI n1]) (n := 2) (rest := []) dX5_on_17 rfl rfl rfl rfl rfl rfl (Nat.le_of_ble_eq_true rfl) (Nat.le_of_ble_eq_true rfl) (Nat.le_of_ble_eq_true rfl) rfl
theorem eX5_on_20 : ev X m_X5_on 20 [vR r] st mem = ev X m_X5_on 21 [vR r] (vR r :: st) mem := ke_aload_n rfl dX5_on_20
theorem eX5_on_21 : ev X m_X5_on 21 [a0] (vR r :: st) mem = evb X (fget mem r 5 13) m_X5_on 24 [a0] st mem := ke_getf rfl dX5_on_21
theorem eX5_on_24 : ev X m_X5_on 24 [a0] [vI x] mem = some (some (vI x), mem) := ke_ireturn dX5_on_24 rfl
theorem eX5_person_0 : ev X m_X5_person 0 [vR r, a1, a2] st mem = ev X m_X5_person 1 [vR r, a1, a2] (vR r :: st) mem := ke_aload_n rfl dX5_person_0
theorem eX5_person_1 : ev X m_X5_person 1 [a0, vI x, a2] st mem = ev X m_X5_person 2 [a0, vI x, a2] (vI x :: st) mem := ke_iload_n rfl dX5_person_1
theorem eX5_person_2 : ev X m_X5_person 2 [a0, a1, a2] (vI n0 :: vR r :: []) mem = evc X (gR mem r 5 (ev X m_X5_isOne 0 [vR r, vI n0] [] mem)) m_X5_person 5 [a0, a1, a2] [] := ke_callV (m' := m_X5_isOne) (as := [vI n0]) (n := 1) (rest := []) dX5_person_2 rfl rfl rfl rfl rfl rfl (Nat.le_of_ble_eq_true rfl) (Nat.le_of_ble_eq_true rfl) (Nat.le_of_ble_eq_true rfl) rfl
theorem eX5_person_5 : ev X m_X5_person 5 [a0, a1, a2] (vI x :: st) mem = if x = 0 then ev X m_X5_person 8 [a0, a1, a2] st mem else ev X m_X5_person 14 [a0, a1, a2] st mem := ke_if_ne dX5_person_5 rfl
theorem eX5_person_8 : ev X m_X5_person 8 [vR r, a1, a2] st mem = ev X m_X5_person 9 [vR r, a1, a2] (vR r :: st) mem := ke_aload_n rfl dX5_person_8
theorem eX5_person_9 : ev X m_X5_person 9 [a0, a1, a2] st mem = ev X m_X5_person 10 [a0, a1, a2] (vI (-1) :: st) mem := ke_iconst (by decide) dX5_person_9
theorem eX5_person_10 : ev X m_X5_person 10 [a0, a1, a2] (vI n0 :: vR r :: []) mem = evc X (gR mem r 5 (ev X m_X5_no 0 [vR r, vI n0] [] mem)) m_X5_person 13 [a0, a1, a2] [] := ke_callV (m' := m_X5_no) (as := [vI n0]) (n := 1) (rest := []) dX5_person_10 rfl rfl rfl rfl rfl rfl (Nat.le_of_ble_eq_true rfl) (Nat.le_of_ble_eq_true rfl) (Nat.le_of_ble_eq_true rfl) rfl
theorem eX5_person_13 : ev X m_X5_person 13 [a0, a1, a2] [vI x] mem = some (some (vI x), mem) := ke_ireturn dX5_person_13 rfl
theorem eX5_person_14 : ev X m_X5_person 14 [a0, a1, vI x] st mem = ev X m_X5_person 15 [a0, a1, vI x] (vI x :: st) mem := ke_iload_n rfl dX5_person_14
theorem eX5_person_15 : ev X m_X5_person 15 [a0, a1, a2] (vI x :: st) mem = if x = 0 then ev X m_X5_person 52 [a0, a1, a2] st mem else if x = 1 then ev X m_X5_person 59 [a0, a1, a2] st mem else if x = 2 then ev X m_X5_person 66 [a0, a1, a2] st mem else if x = 3 then ev X m_X5_person 73 [a0, a1, a2] st mem else if x = 4 then ev X m_X5_person 80 [a0, a1, a2] st mem else if x = 5 then ev X m_X5_person 86 [a0, a1, a2] st mem else ev X m_X5_person 100 [a0, a1, a2] st mem := by
  by_cases h0 : x = 0
  · subst h0; rw [if_pos rfl]; exact ke_swT dX5_person_15 (by decide) (by decide) (off := 37) rfl rfl
  rw [if_neg h0]
  by_cases h1 : x = 1
  · subst h1; rw [if_pos rfl]; exact ke_swT dX5_person_15 (by decide) (by decide) (off := 44) rfl rfl
  rw [if_neg h1]
  by_cases h2 : x = 2
  · subst h2; rw [if_pos rfl]; exact ke_swT dX5_person_15 (by decide) (by decide) (off := 51) rfl rfl
  rw [if_neg h2]
  by_cases h3 : x = 3
  · subst h3; rw [if_pos rfl]; exact ke_swT dX5_person_15 (by decide) (by decide) (off := 58) rfl rfl
  rw [if_neg h3]
  by_cases h4 : x = 4
  · subst h4; rw [if_pos rfl]; exact ke_swT dX5_person_15 (by decide) (by decide) (off := 65) rfl rfl
  rw [if_neg h4]
  by_cases h5 : x = 5
  · subst h5; rw [if_pos rfl]; exact ke_swT dX5_person_15 (by decide) (by decide) (off := 71) rfl rfl
  rw [if_neg h5]
  exact ke_swD dX5_person_15 (by omega) rfl
theorem eX5_person_52 : ev X m_X5_person 52 [vR r, a1, a2] st mem = ev X m_X5_person 53 [vR r, a1, a2] (vR r :: st) mem := ke_aload_n rfl dX5_person_52
theorem eX5_person_53 : ev X m_X5_person 53 [a0, a1, a2] (vR r :: st) mem = evb X (fget mem r 5 1) m_X5_person 56 [a0, a1, a2] st mem := ke_getf rfl dX5_person_53
theorem eX5_person_56 : ev X m_X5_person 56 [a0, vI x, a2] st mem = ev X m_X5_person 57 [a0, vI x, a2] (vI x :: st) mem := ke_iload_n rfl dX5_person_56
theorem eX5_person_57 : ev X m_X5_person 57 [a0, a1, a2] (vI x :: vR r :: st) mem = evb X (aget mem r x) m_X5_person 58 [a0, a1, a2] st mem := ke_iaload dX5_person_57
theorem eX5_person_58 : ev X m_X5_person 58 [a0, a1, a2] [vI x] mem = some (some (vI x), mem) := ke_ireturn dX5_person_58 rfl
theorem eX5_person_59 : ev X m_X5_person 59 [vR r, a1, a2] st mem = ev X m_X5_person 60 [vR r, a1, a2] (vR r :: st) mem := ke_aload_n rfl dX5_person_59
theorem eX5_person_60 : ev X m_X5_person 60 [a0, a1, a2] (vR r :: st) mem = evb X (fget mem r 5 2) m_X5_person 63 [a0, a1, a2] st mem := ke_getf rfl dX5_person_60
theorem eX5_person_63 : ev X m_X5_person 63 [a0, vI x, a2] st mem = ev X m_X5_person 64 [a0, vI x, a2] (vI x :: st) mem := ke_iload_n rfl dX5_person_63
theorem eX5_person_64 : ev X m_X5_person 64 [a0, a1, a2] (vI x :: vR r :: st) mem = evb X (aget mem r x) m_X5_person 65 [a0, a1, a2] st mem := ke_iaload dX5_person_64
theorem eX5_person_65 : ev X m_X5_person 65 [a0, a1, a2] [vI x] mem = some (some (vI x), mem) := ke_ireturn dX5_person_65 rfl
theorem eX5_person_66 : ev X m_X5_person 66 [vR r, a1, a2] st mem = ev X m_X5_person 67 [vR r, a1, a2] (vR r :: st) mem := ke_aload_n rfl dX5_person_66
theorem eX5_person_67 : ev X m_X5_person 67 [a0, a1, a2] (vR r :: st) mem = evb X (fget mem r 5 3) m_X5_person 70 [a0, a1, a2] st mem := ke_getf rfl dX5_person_67
theorem eX5_person_70 : ev X m_X5_person 70 [a0, vI x, a2] st mem = ev X m_X5_person 71 [a0, vI x, a2] (vI x :: st) mem := ke_iload_n rfl dX5_person_70
theorem eX5_person_71 : ev X m_X5_person 71 [a0, a1, a2] (vI x :: vR r :: st) mem = evb X (aget mem r x) m_X5_person 72 [a0, a1, a2] st mem := ke_iaload dX5_person_71
theorem eX5_person_72 : ev X m_X5_person 72 [a0, a1, a2] [vI x] mem = some (some (vI x), mem) := ke_ireturn dX5_person_72 rfl
theorem eX5_person_73 : ev X m_X5_person 73 [vR r, a1, a2] st mem = ev X m_X5_person 74 [vR r, a1, a2] (vR r :: st) mem := ke_aload_n rfl dX5_person_73
theorem eX5_person_74 : ev X m_X5_person 74 [a0, a1, a2] (vR r :: st) mem = evb X (fget mem r 5 4) m_X5_person 77 [a0, a1, a2] st mem := ke_getf rfl dX5_person_74
theorem eX5_person_77 : ev X m_X5_person 77 [a0, vI x, a2] st mem = ev X m_X5_person 78 [a0, vI x, a2] (vI x :: st) mem := ke_iload_n rfl dX5_person_77
theorem eX5_person_78 : ev X m_X5_person 78 [a0, a1, a2] (vI x :: vR r :: st) mem = evb X (aget mem r x) m_X5_person 79 [a0, a1, a2] st mem := ke_iaload dX5_person_78
theorem eX5_person_79 : ev X m_X5_person 79 [a0, a1, a2] [vI x] mem = some (some (vI x), mem) := ke_ireturn dX5_person_79 rfl
theorem eX5_person_80 : ev X m_X5_person 80 [vR r, a1, a2] st mem = ev X m_X5_person 81 [vR r, a1, a2] (vR r :: st) mem := ke_aload_n rfl dX5_person_80
theorem eX5_person_81 : ev X m_X5_person 81 [a0, vI x, a2] st mem = ev X m_X5_person 82 [a0, vI x, a2] (vI x :: st) mem := ke_iload_n rfl dX5_person_81
theorem eX5_person_82 : ev X m_X5_person 82 [a0, a1, a2] (vI n0 :: vR r :: []) mem = evc X (gR mem r 5 (ev X m_X5_milesOf 0 [vR r, vI n0] [] mem)) m_X5_person 85 [a0, a1, a2] [] := ke_callV (m' := m_X5_milesOf) (as := [vI n0]) (n := 1) (rest := []) dX5_person_82 rfl rfl rfl rfl rfl rfl (Nat.le_of_ble_eq_true rfl) (Nat.le_of_ble_eq_true rfl) (Nat.le_of_ble_eq_true rfl) rfl
theorem eX5_person_85 : ev X m_X5_person 85 [a0, a1, a2] [vI x] mem = some (some (vI x), mem) := ke_ireturn dX5_person_85 rfl
theorem eX5_person_86 : ev X m_X5_person 86 [vR r, a1, a2] st mem = ev X m_X5_person 87 [vR r, a1, a2] (vR r :: st) mem := ke_aload_n rfl dX5_person_86
theorem eX5_person_87 : ev X m_X5_person 87 [a0, vI x, a2] st mem = ev X m_X5_person 88 [a0, vI x, a2] (vI x :: st) mem := ke_iload_n rfl dX5_person_87
theorem eX5_person_88 : ev X m_X5_person 88 [a0, a1, a2] (vI n0 :: vR r :: []) mem = evc X (gR mem r 5 (ev X m_X5_isCarrying 0 [vR r, vI n0, vS] [] mem)) m_X5_person 91 [a0, a1, a2] [] := ke_callV (m' := m_X5_isCarrying) (as := [vI n0]) (n := 1) (rest := []) dX5_person_88 rfl rfl rfl rfl rfl rfl (Nat.le_of_ble_eq_true rfl) (Nat.le_of_ble_eq_true rfl) (Nat.le_of_ble_eq_true rfl) rfl
theorem eX5_person_91 : ev X m_X5_person 91 [a0, a1, a2] (vI x :: st) mem = if x = 0 then ev X m_X5_person 98 [a0, a1, a2] st mem else ev X m_X5_person 94 [a0, a1, a2] st mem := ke_if_eq dX5_person_91 rfl
theorem eX5_person_94 : ev X m_X5_person 94 [a0, a1, a2] st mem = ev X m_X5_person 95 [a0, a1, a2] (vI 1 :: st) mem := ke_iconst (by decide) dX5_person_94
theorem eX5_person_95 : ev X m_X5_person 95 [a0, a1, a2] st mem = ev X m_X5_person 99 [a0, a1, a2] st mem := ke_goto dX5_person_95 rfl
theorem eX5_person_98 : ev X m_X5_person 98 [a0, a1, a2] st mem = ev X m_X5_person 99 [a0, a1, a2] (vI 0 :: st) mem := ke_iconst (by decide) dX5_person_98
theorem eX5_person_99 : ev X m_X5_person 99 [a0, a1, a2] [vI x] mem = some (some (vI x), mem) := ke_ireturn dX5_person_99 rfl
theorem eX5_person_100 : ev X m_X5_person 100 [vR r, a1, a2] st mem = ev X m_X5_person 101 [vR r, a1, a2] (vR r :: st) mem := ke_aload_n rfl dX5_person_100
theorem eX5_person_101 : ev X m_X5_person 101 [a0, a1, a2] st mem = ev X m_X5_person 103 [a0, a1, a2] (vI (-2) :: st) mem := ke_bipush (by decide) dX5_person_101
theorem eX5_person_103 : ev X m_X5_person 103 [a0, a1, a2] (vI n0 :: vR r :: []) mem = evc X (gR mem r 5 (ev X m_X5_no 0 [vR r, vI n0] [] mem)) m_X5_person 106 [a0, a1, a2] [] := ke_callV (m' := m_X5_no) (as := [vI n0]) (n := 1) (rest := []) dX5_person_103 rfl rfl rfl rfl rfl rfl (Nat.le_of_ble_eq_true rfl) (Nat.le_of_ble_eq_true rfl) (Nat.le_of_ble_eq_true rfl) rfl
theorem eX5_person_106 : ev X m_X5_person 106 [a0, a1, a2] [vI x] mem = some (some (vI x), mem) := ke_ireturn dX5_person_106 rfl
theorem eX5_parcel_0 : ev X m_X5_parcel 0 [vR r, a1, a2] st mem = ev X m_X5_parcel 1 [vR r, a1, a2] (vR r :: st) mem := ke_aload_n rfl dX5_parcel_0
theorem eX5_parcel_1 : ev X m_X5_parcel 1 [a0, vI x, a2] st mem = ev X m_X5_parcel 2 [a0, vI x, a2] (vI x :: st) mem := ke_iload_n rfl dX5_parcel_1
theorem eX5_parcel_2 : ev X m_X5_parcel 2 [a0, a1, a2] (vI n0 :: vR r :: []) mem = evc X (gR mem r 5 (ev X m_X5_isParcel 0 [vR r, vI n0] [] mem)) m_X5_parcel 5 [a0, a1, a2] [] := ke_callV (m' := m_X5_isParcel) (as := [vI n0]) (n := 1) (rest := []) dX5_parcel_2 rfl rfl rfl rfl rfl rfl (Nat.le_of_ble_eq_true rfl) (Nat.le_of_ble_eq_true rfl) (Nat.le_of_ble_eq_true rfl) rfl
theorem eX5_parcel_5 : ev X m_X5_parcel 5 [a0, a1, a2] (vI x :: st) mem = if x = 0 then ev X m_X5_parcel 8 [a0, a1, a2] st mem else ev X m_X5_parcel 14 [a0, a1, a2] st mem := ke_if_ne dX5_parcel_5 rfl
theorem eX5_parcel_8 : ev X m_X5_parcel 8 [vR r, a1, a2] st mem = ev X m_X5_parcel 9 [vR r, a1, a2] (vR r :: st) mem := ke_aload_n rfl dX5_parcel_8
theorem eX5_parcel_9 : ev X m_X5_parcel 9 [a0, a1, a2] st mem = ev X m_X5_parcel 10 [a0, a1, a2] (vI (-1) :: st) mem := ke_iconst (by decide) dX5_parcel_9
theorem eX5_parcel_10 : ev X m_X5_parcel 10 [a0, a1, a2] (vI n0 :: vR r :: []) mem = evc X (gR mem r 5 (ev X m_X5_no 0 [vR r, vI n0] [] mem)) m_X5_parcel 13 [a0, a1, a2] [] := ke_callV (m' := m_X5_no) (as := [vI n0]) (n := 1) (rest := []) dX5_parcel_10 rfl rfl rfl rfl rfl rfl (Nat.le_of_ble_eq_true rfl) (Nat.le_of_ble_eq_true rfl) (Nat.le_of_ble_eq_true rfl) rfl
theorem eX5_parcel_13 : ev X m_X5_parcel 13 [a0, a1, a2] [vI x] mem = some (some (vI x), mem) := ke_ireturn dX5_parcel_13 rfl
theorem eX5_parcel_14 : ev X m_X5_parcel 14 [a0, a1, vI x] st mem = ev X m_X5_parcel 15 [a0, a1, vI x] (vI x :: st) mem := ke_iload_n rfl dX5_parcel_14
theorem eX5_parcel_15 : ev X m_X5_parcel 15 [a0, a1, a2] (vI x :: st) mem = if x = 0 then ev X m_X5_parcel 48 [a0, a1, a2] st mem else if x = 1 then ev X m_X5_parcel 55 [a0, a1, a2] st mem else if x = 2 then ev X m_X5_parcel 62 [a0, a1, a2] st mem else if x = 3 then ev X m_X5_parcel 69 [a0, a1, a2] st mem else if x = 4 then ev X m_X5_parcel 76 [a0, a1, a2] st mem else ev X m_X5_parcel 83 [a0, a1, a2] st mem := by
  by_cases h0 : x = 0
  · subst h0; rw [if_pos rfl]; exact ke_swT dX5_parcel_15 (by decide) (by decide) (off := 33) rfl rfl
  rw [if_neg h0]
  by_cases h1 : x = 1
  · subst h1; rw [if_pos rfl]; exact ke_swT dX5_parcel_15 (by decide) (by decide) (off := 40) rfl rfl
  rw [if_neg h1]
  by_cases h2 : x = 2
  · subst h2; rw [if_pos rfl]; exact ke_swT dX5_parcel_15 (by decide) (by decide) (off := 47) rfl rfl
  rw [if_neg h2]
  by_cases h3 : x = 3
  · subst h3; rw [if_pos rfl]; exact ke_swT dX5_parcel_15 (by decide) (by decide) (off := 54) rfl rfl
  rw [if_neg h3]
  by_cases h4 : x = 4
  · subst h4; rw [if_pos rfl]; exact ke_swT dX5_parcel_15 (by decide) (by decide) (off := 61) rfl rfl
  rw [if_neg h4]
  exact ke_swD dX5_parcel_15 (by omega) rfl
theorem eX5_parcel_48 : ev X m_X5_parcel 48 [vR r, a1, a2] st mem = ev X m_X5_parcel 49 [vR r, a1, a2] (vR r :: st) mem := ke_aload_n rfl dX5_parcel_48
theorem eX5_parcel_49 : ev X m_X5_parcel 49 [a0, a1, a2] (vR r :: st) mem = evb X (fget mem r 5 6) m_X5_parcel 52 [a0, a1, a2] st mem := ke_getf rfl dX5_parcel_49
theorem eX5_parcel_52 : ev X m_X5_parcel 52 [a0, vI x, a2] st mem = ev X m_X5_parcel 53 [a0, vI x, a2] (vI x :: st) mem := ke_iload_n rfl dX5_parcel_52
theorem eX5_parcel_53 : ev X m_X5_parcel 53 [a0, a1, a2] (vI x :: vR r :: st) mem = evb X (aget mem r x) m_X5_parcel 54 [a0, a1, a2] st mem := ke_iaload dX5_parcel_53
theorem eX5_parcel_54 : ev X m_X5_parcel 54 [a0, a1, a2] [vI x] mem = some (some (vI x), mem) := ke_ireturn dX5_parcel_54 rfl
theorem eX5_parcel_55 : ev X m_X5_parcel 55 [vR r, a1, a2] st mem = ev X m_X5_parcel 56 [vR r, a1, a2] (vR r :: st) mem := ke_aload_n rfl dX5_parcel_55
theorem eX5_parcel_56 : ev X m_X5_parcel 56 [a0, a1, a2] (vR r :: st) mem = evb X (fget mem r 5 7) m_X5_parcel 59 [a0, a1, a2] st mem := ke_getf rfl dX5_parcel_56
theorem eX5_parcel_59 : ev X m_X5_parcel 59 [a0, vI x, a2] st mem = ev X m_X5_parcel 60 [a0, vI x, a2] (vI x :: st) mem := ke_iload_n rfl dX5_parcel_59
theorem eX5_parcel_60 : ev X m_X5_parcel 60 [a0, a1, a2] (vI x :: vR r :: st) mem = evb X (aget mem r x) m_X5_parcel 61 [a0, a1, a2] st mem := ke_iaload dX5_parcel_60
theorem eX5_parcel_61 : ev X m_X5_parcel 61 [a0, a1, a2] [vI x] mem = some (some (vI x), mem) := ke_ireturn dX5_parcel_61 rfl
theorem eX5_parcel_62 : ev X m_X5_parcel 62 [vR r, a1, a2] st mem = ev X m_X5_parcel 63 [vR r, a1, a2] (vR r :: st) mem := ke_aload_n rfl dX5_parcel_62
theorem eX5_parcel_63 : ev X m_X5_parcel 63 [a0, a1, a2] (vR r :: st) mem = evb X (fget mem r 5 8) m_X5_parcel 66 [a0, a1, a2] st mem := ke_getf rfl dX5_parcel_63
theorem eX5_parcel_66 : ev X m_X5_parcel 66 [a0, vI x, a2] st mem = ev X m_X5_parcel 67 [a0, vI x, a2] (vI x :: st) mem := ke_iload_n rfl dX5_parcel_66
theorem eX5_parcel_67 : ev X m_X5_parcel 67 [a0, a1, a2] (vI x :: vR r :: st) mem = evb X (aget mem r x) m_X5_parcel 68 [a0, a1, a2] st mem := ke_iaload dX5_parcel_67
theorem eX5_parcel_68 : ev X m_X5_parcel 68 [a0, a1, a2] [vI x] mem = some (some (vI x), mem) := ke_ireturn dX5_parcel_68 rfl
theorem eX5_parcel_69 : ev X m_X5_parcel 69 [vR r, a1, a2] st mem = ev X m_X5_parcel 70 [vR r, a1, a2] (vR r :: st) mem := ke_aload_n rfl dX5_parcel_69
theorem eX5_parcel_70 : ev X m_X5_parcel 70 [a0, a1, a2] (vR r :: st) mem = evb X (fget mem r 5 9) m_X5_parcel 73 [a0, a1, a2] st mem := ke_getf rfl dX5_parcel_70
theorem eX5_parcel_73 : ev X m_X5_parcel 73 [a0, vI x, a2] st mem = ev X m_X5_parcel 74 [a0, vI x, a2] (vI x :: st) mem := ke_iload_n rfl dX5_parcel_73
theorem eX5_parcel_74 : ev X m_X5_parcel 74 [a0, a1, a2] (vI x :: vR r :: st) mem = evb X (aget mem r x) m_X5_parcel 75 [a0, a1, a2] st mem := ke_iaload dX5_parcel_74
theorem eX5_parcel_75 : ev X m_X5_parcel 75 [a0, a1, a2] [vI x] mem = some (some (vI x), mem) := ke_ireturn dX5_parcel_75 rfl
theorem eX5_parcel_76 : ev X m_X5_parcel 76 [vR r, a1, a2] st mem = ev X m_X5_parcel 77 [vR r, a1, a2] (vR r :: st) mem := ke_aload_n rfl dX5_parcel_76
theorem eX5_parcel_77 : ev X m_X5_parcel 77 [a0, a1, a2] (vR r :: st) mem = evb X (fget mem r 5 10) m_X5_parcel 80 [a0, a1, a2] st mem := ke_getf rfl dX5_parcel_77
theorem eX5_parcel_80 : ev X m_X5_parcel 80 [a0, vI x, a2] st mem = ev X m_X5_parcel 81 [a0, vI x, a2] (vI x :: st) mem := ke_iload_n rfl dX5_parcel_80
theorem eX5_parcel_81 : ev X m_X5_parcel 81 [a0, a1, a2] (vI x :: vR r :: st) mem = evb X (aget mem r x) m_X5_parcel 82 [a0, a1, a2] st mem := ke_iaload dX5_parcel_81
theorem eX5_parcel_82 : ev X m_X5_parcel 82 [a0, a1, a2] [vI x] mem = some (some (vI x), mem) := ke_ireturn dX5_parcel_82 rfl
theorem eX5_parcel_83 : ev X m_X5_parcel 83 [vR r, a1, a2] st mem = ev X m_X5_parcel 84 [vR r, a1, a2] (vR r :: st) mem := ke_aload_n rfl dX5_parcel_83
theorem eX5_parcel_84 : ev X m_X5_parcel 84 [a0, a1, a2] st mem = ev X m_X5_parcel 86 [a0, a1, a2] (vI (-2) :: st) mem := ke_bipush (by decide) dX5_parcel_84
theorem eX5_parcel_86 : ev X m_X5_parcel 86 [a0, a1, a2] (vI n0 :: vR r :: []) mem = evc X (gR mem r 5 (ev X m_X5_no 0 [vR r, vI n0] [] mem)) m_X5_parcel 89 [a0, a1, a2] [] := ke_callV (m' := m_X5_no) (as := [vI n0]) (n := 1) (rest := []) dX5_parcel_86 rfl rfl rfl rfl rfl rfl (Nat.le_of_ble_eq_true rfl) (Nat.le_of_ble_eq_true rfl) (Nat.le_of_ble_eq_true rfl) rfl
theorem eX5_parcel_89 : ev X m_X5_parcel 89 [a0, a1, a2] [vI x] mem = some (some (vI x), mem) := ke_ireturn dX5_parcel_89 rfl
theorem eX5_isParcel_0 : ev X m_X5_isParcel 0 [a0, vI x] st mem = ev X m_X5_isParcel 1 [a0, vI x] (vI x :: st) mem := ke_iload_n rfl dX5_isParcel_0
theorem eX5_isParcel_1 : ev X m_X5_isParcel 1 [a0, a1] (vI x :: st) mem = if x < 0 then ev X m_X5_isParcel 16 [a0, a1] st mem else ev X m_X5_isParcel 4 [a0, a1] st mem := ke_if_lt dX5_isParcel_1 rfl
theorem eX5_isParcel_4 : ev X m_X5_isParcel 4 [a0, vI x] st mem = ev X m_X5_isParcel 5 [a0, vI x] (vI x :: st) mem := ke_iload_n rfl dX5_isParcel_4
theorem eX5_isParcel_5 : ev X m_X5_isParcel 5 [vR r, a1] st mem = ev X m_X5_isParcel 6 [vR r, a1] (vR r :: st) mem := ke_aload_n rfl dX5_isParcel_5
theorem eX5_isParcel_6 : ev X m_X5_isParcel 6 [a0, a1] (vR r :: st) mem = evb X (fget mem r 5 12) m_X5_isParcel 9 [a0, a1] st mem := ke_getf rfl dX5_isParcel_6
theorem eX5_isParcel_9 : ev X m_X5_isParcel 9 [a0, a1] (vI y :: vI x :: st) mem = if x < y then ev X m_X5_isParcel 12 [a0, a1] st mem else ev X m_X5_isParcel 16 [a0, a1] st mem := ke_icmp_ge dX5_isParcel_9 rfl
theorem eX5_isParcel_12 : ev X m_X5_isParcel 12 [a0, a1] st mem = ev X m_X5_isParcel 13 [a0, a1] (vI 1 :: st) mem := ke_iconst (by decide) dX5_isParcel_12
theorem eX5_isParcel_13 : ev X m_X5_isParcel 13 [a0, a1] st mem = ev X m_X5_isParcel 17 [a0, a1] st mem := ke_goto dX5_isParcel_13 rfl
theorem eX5_isParcel_16 : ev X m_X5_isParcel 16 [a0, a1] st mem = ev X m_X5_isParcel 17 [a0, a1] (vI 0 :: st) mem := ke_iconst (by decide) dX5_isParcel_16
theorem eX5_isParcel_17a : ev X m_X5_isParcel 17 [a0, a1] [vI 1] mem = some (some (vI 1), mem) := ke_zreturn dX5_isParcel_17 rfl rfl
theorem eX5_isParcel_17b : ev X m_X5_isParcel 17 [a0, a1] [vI 0] mem = some (some (vI 0), mem) := ke_zreturn dX5_isParcel_17 rfl rfl
theorem eX5_isParcel_17c {c : Prop} [Decidable c] : ev X m_X5_isParcel 17 [a0, a1] [vI (if c then 1 else 0)] mem = some (some (vI (if c then 1 else 0)), mem) := ke_zreturn dX5_isParcel_17 rfl (by split <;> rfl)
theorem eX5_hate_0 : ev X m_X5_hate 0 [vR r, a1, a2] st mem = ev X m_X5_hate 1 [vR r, a1, a2] (vR r :: st) mem := ke_aload_n rfl dX5_hate_0
theorem eX5_hate_1 : ev X m_X5_hate 1 [a0, vI x, a2] st mem = ev X m_X5_hate 2 [a0, vI x, a2] (vI x :: st) mem := ke_iload_n rfl dX5_hate_1
theorem eX5_hate_2 : ev X m_X5_hate 2 [a0, a1, vI x] st mem = ev X m_X5_hate 3 [a0, a1, vI x] (vI x :: st) mem := ke_iload_n rfl dX5_hate_2
theorem eX5_hate_3 : ev X m_X5_hate 3 [a0, a1, a2] (vI n1 :: vI n0 :: vR r :: []) mem = evc X (gR mem r 5 (ev X m_X5_areTwo 0 [vR r, vI n0, vI n1] [] mem)) m_X5_hate 6 [a0, a1, a2] [] := ke_callV (m' := m_X5_areTwo) (as := [vI n0, vI n1]) (n := 2) (rest := []) dX5_hate_3 rfl rfl rfl rfl rfl rfl (Nat.le_of_ble_eq_true rfl) (Nat.le_of_ble_eq_true rfl) (Nat.le_of_ble_eq_true rfl) rfl
theorem eX5_hate_6 : ev X m_X5_hate 6 [a0, a1, a2] (vI x :: st) mem = if x = 0 then ev X m_X5_hate 22 [a0, a1, a2] st mem else ev X m_X5_hate 9 [a0, a1, a2] st mem := ke_if_eq dX5_hate_6 rfl
theorem eX5_hate_9 : ev X m_X5_hate 9 [vR r, a1, a2] st mem = ev X m_X5_hate 10 [vR r, a1, a2] (vR r :: st) mem := ke_aload_n rfl dX5_hate_9
theorem eX5_hate_10 : ev X m_X5_hate 10 [a0, a1, a2] (vR r :: st) mem = evb X (fget mem r 5 5) m_X5_hate 13 [a0, a1, a2] st mem := ke_getf rfl dX5_hate_10
theorem eX5_hate_13 : ev X m_X5_hate 13 [a0, vI x, a2] st mem = ev X m_X5_hate 14 [a0, vI x, a2] (vI x :: st) mem := ke_iload_n rfl dX5_hate_13
theorem eX5_hate_14 : ev X m_X5_hate 14 [a0, a1, vI x] st mem = ev X m_X5_hate 15 [a0, a1, vI x] (vI x :: st) mem := ke_iload_n rfl dX5_hate_14
theorem eX5_hate_15 : ev X m_X5_hate 15 [a0, a1, a2] (vI n1 :: vI n0 :: [s0]) mem = evc X (ev X m_X5_spot 0 [vI n0, vI n1] [] mem) m_X5_hate 18 [a0, a1, a2] [s0] := ke_callS (m' := m_X5_spot) (as := [vI n0, vI n1]) (n := 2) (rest := [s0]) dX5_hate_15 rfl (by decide) rfl rfl rfl rfl rfl (Nat.le_of_ble_eq_true rfl) (Nat.le_of_ble_eq_true rfl) rfl
theorem eX5_hate_18 : ev X m_X5_hate 18 [a0, a1, a2] (vI x :: vR r :: st) mem = evb X (aget mem r x) m_X5_hate 19 [a0, a1, a2] st mem := ke_iaload dX5_hate_18
theorem eX5_hate_19 : ev X m_X5_hate 19 [a0, a1, a2] st mem = ev X m_X5_hate 27 [a0, a1, a2] st mem := ke_goto dX5_hate_19 rfl
theorem eX5_hate_22 : ev X m_X5_hate 22 [vR r, a1, a2] st mem = ev X m_X5_hate 23 [vR r, a1, a2] (vR r :: st) mem := ke_aload_n rfl dX5_hate_22
theorem eX5_hate_23 : ev X m_X5_hate 23 [a0, a1, a2] st mem = ev X m_X5_hate 24 [a0, a1, a2] (vI (-1) :: st) mem := ke_iconst (by decide) dX5_hate_23
theorem eX5_hate_24 : ev X m_X5_hate 24 [a0, a1, a2] (vI n0 :: vR r :: []) mem = evc X (gR mem r 5 (ev X m_X5_no 0 [vR r, vI n0] [] mem)) m_X5_hate 27 [a0, a1, a2] [] := ke_callV (m' := m_X5_no) (as := [vI n0]) (n := 1) (rest := []) dX5_hate_24 rfl rfl rfl rfl rfl rfl (Nat.le_of_ble_eq_true rfl) (Nat.le_of_ble_eq_true rfl) (Nat.le_of_ble_eq_true rfl) rfl
theorem eX5_hate_27 : ev X m_X5_hate 27 [a0, a1, a2] [vI x] mem = some (some (vI x), mem) := ke_ireturn dX5_hate_27 rfl
theorem eX5_posts_0 : ev X m_X5_posts 0 [vR r, a1, a2, a3] st mem = ev X m_X5_posts 1 [vR r, a1, a2, a3] (vR r :: st) mem := ke_aload_n rfl dX5_posts_0
theorem eX5_posts_1 : ev X m_X5_posts 1 [a0, vI x, a2, a3] st mem = ev X m_X5_posts 2 [a0, vI x, a2, a3] (vI x :: st) mem := ke_iload_n rfl dX5_posts_1
theorem eX5_posts_2 : ev X m_X5_posts 2 [a0, a1, a2, a3] (vI n0 :: vR r :: []) mem = evc X (gR mem r 5 (ev X m_X5_isOne 0 [vR r, vI n0] [] mem)) m_X5_posts 5 [a0, a1, a2, a3] [] := ke_callV (m' := m_X5_isOne) (as := [vI n0]) (n := 1) (rest := []) dX5_posts_2 rfl rfl rfl rfl rfl rfl (Nat.le_of_ble_eq_true rfl) (Nat.le_of_ble_eq_true rfl) (Nat.le_of_ble_eq_true rfl) rfl
theorem eX5_posts_5 : ev X m_X5_posts 5 [a0, a1, a2, a3] (vI x :: st) mem = if x = 0 then ev X m_X5_posts 8 [a0, a1, a2, a3] st mem else ev X m_X5_posts 12 [a0, a1, a2, a3] st mem := ke_if_ne dX5_posts_5 rfl
theorem eX5_posts_8 : ev X m_X5_posts 8 [a0, a1, a2, a3] st mem = ev X m_X5_posts 9 [a0, a1, a2, a3] (vI (-1) :: st) mem := ke_iconst (by decide) dX5_posts_8
theorem eX5_posts_9 : ev X m_X5_posts 9 [a0, a1, a2, a3] st mem = ev X m_X5_posts 19 [a0, a1, a2, a3] st mem := ke_goto dX5_posts_9 rfl
theorem eX5_posts_12 : ev X m_X5_posts 12 [a0, a1, vI x, a3] st mem = ev X m_X5_posts 13 [a0, a1, vI x, a3] (vI x :: st) mem := ke_iload_n rfl dX5_posts_12
theorem eX5_posts_13 : ev X m_X5_posts 13 [a0, a1, a2, a3] st mem = ev X m_X5_posts 14 [a0, a1, a2, a3] (vI 0 :: st) mem := ke_iconst (by decide) dX5_posts_13
theorem eX5_posts_14 : ev X m_X5_posts 14 [a0, a1, a2, a3] st mem = ev X m_X5_posts 16 [a0, a1, a2, a3] (vI 9 :: st) mem := ke_bipush (by decide) dX5_posts_14
theorem eX5_posts_16 : ev X m_X5_posts 16 [a0, a1, a2, a3] (vI n2 :: vI n1 :: vI n0 :: []) mem = evc X (ev X m_X5_bound 0 [vI n0, vI n1, vI n2] [] mem) m_X5_posts 19 [a0, a1, a2, a3] [] := ke_callS (m' := m_X5_bound) (as := [vI n0, vI n1, vI n2]) (n := 3) (rest := []) dX5_posts_16 rfl (by decide) rfl rfl rfl rfl rfl (Nat.le_of_ble_eq_true rfl) (Nat.le_of_ble_eq_true rfl) rfl
theorem eX5_posts_19 : ev X m_X5_posts 19 [a0, a1, a2, a3] (vI x :: st) mem = ev X m_X5_posts 20 [a0, a1, a2, vI x] st mem := ke_istore_n (Nat.le_of_ble_eq_true rfl) rfl dX5_posts_19
theorem eX5_posts_20 : ev X m_X5_posts 20 [a0, a1, a2, vI x] st mem = ev X m_X5_posts 21 [a0, a1, a2, vI x] (vI x :: st) mem := ke_iload_n rfl dX5_posts_20
theorem eX5_posts_21 : ev X m_X5_posts 21 [a0, a1, a2, a3] (vI x :: st) mem = if x = 0 then ev X m_X5_posts 24 [a0, a1, a2, a3] st mem else ev X m_X5_posts 36 [a0, a1, a2, a3] st mem := ke_if_ne dX5_posts_21 rfl
theorem eX5_posts_24 : ev X m_X5_posts 24 [vR r, a1, a2, a3] st mem = ev X m_X5_posts 25 [vR r, a1, a2, a3] (vR r :: st) mem := ke_aload_n rfl dX5_posts_24
theorem eX5_posts_25 : ev X m_X5_posts 25 [a0, a1, a2, a3] (vR r :: st) mem = evb X (fget mem r 5 12) m_X5_posts 28 [a0, a1, a2, a3] st mem := ke_getf rfl dX5_posts_25
theorem eX5_posts_28 : ev X m_X5_posts 28 [a0, a1, a2, a3] st mem = ev X m_X5_posts 30 [a0, a1, a2, a3] (vI 8 :: st) mem := ke_bipush (by decide) dX5_posts_28
theorem eX5_posts_30 : ev X m_X5_posts 30 [a0, a1, a2, a3] (vI y :: vI x :: st) mem = if x = y then ev X m_X5_posts 33 [a0, a1, a2, a3] st mem else ev X m_X5_posts 36 [a0, a1, a2, a3] st mem := ke_icmp_ne dX5_posts_30 rfl
theorem eX5_posts_33 : ev X m_X5_posts 33 [a0, a1, a2, a3] st mem = ev X m_X5_posts 35 [a0, a1, a2, a3] (vI (-6) :: st) mem := ke_bipush (by decide) dX5_posts_33
theorem eX5_posts_35 : ev X m_X5_posts 35 [a0, a1, a2, a3] (vI x :: st) mem = ev X m_X5_posts 36 [a0, a1, a2, vI x] st mem := ke_istore_n (Nat.le_of_ble_eq_true rfl) rfl dX5_posts_35
theorem eX5_posts_36 : ev X m_X5_posts 36 [a0, a1, a2, vI x] st mem = ev X m_X5_posts 37 [a0, a1, a2, vI x] (vI x :: st) mem := ke_iload_n rfl dX5_posts_36
theorem eX5_posts_37 : ev X m_X5_posts 37 [a0, a1, a2, a3] (vI x :: st) mem = if x = 0 then ev X m_X5_posts 46 [a0, a1, a2, a3] st mem else ev X m_X5_posts 40 [a0, a1, a2, a3] st mem := ke_if_eq dX5_posts_37 rfl
theorem eX5_posts_40 : ev X m_X5_posts 40 [vR r, a1, a2, a3] st mem = ev X m_X5_posts 41 [vR r, a1, a2, a3] (vR r :: st) mem := ke_aload_n rfl dX5_posts_40
theorem eX5_posts_41 : ev X m_X5_posts 41 [a0, a1, a2, vI x] st mem = ev X m_X5_posts 42 [a0, a1, a2, vI x] (vI x :: st) mem := ke_iload_n rfl dX5_posts_41
theorem eX5_posts_42 : ev X m_X5_posts 42 [a0, a1, a2, a3] (vI n0 :: vR r :: []) mem = evc X (gR mem r 5 (ev X m_X5_no 0 [vR r, vI n0] [] mem)) m_X5_posts 45 [a0, a1, a2, a3] [] := ke_callV (m' := m_X5_no) (as := [vI n0]) (n := 1) (rest := []) dX5_posts_42 rfl rfl rfl rfl rfl rfl (Nat.le_of_ble_eq_true rfl) (Nat.le_of_ble_eq_true rfl) (Nat.le_of_ble_eq_true rfl) rfl
theorem eX5_posts_45 : ev X m_X5_posts 45 [a0, a1, a2, a3] [vI x] mem = some (some (vI x), mem) := ke_ireturn dX5_posts_45 rfl
theorem eX5_posts_46 : ev X m_X5_posts 46 [vR r, a1, a2, a3] st mem = ev X m_X5_posts 47 [vR r, a1, a2, a3] (vR r :: st) mem := ke_aload_n rfl dX5_posts_46
theorem eX5_posts_47 : ev X m_X5_posts 47 [a0, vI x, a2, a3] st mem = ev X m_X5_posts 48 [a0, vI x, a2, a3] (vI x :: st) mem := ke_iload_n rfl dX5_posts_47
theorem eX5_posts_48 : ev X m_X5_posts 48 [a0, a1, vI x, a3] st mem = ev X m_X5_posts 49 [a0, a1, vI x, a3] (vI x :: st) mem := ke_iload_n rfl dX5_posts_48
theorem eX5_posts_49 : ev X m_X5_posts 49 [a0, a1, a2, a3] (vI n1 :: vI n0 :: vR r :: []) mem = evc X (gR mem r 5 (ev X m_X5_adds 0 [vR r, vI n0, vI n1] [] mem)) m_X5_posts 52 [a0, a1, a2, a3] [] := ke_callV (m' := m_X5_adds) (as := [vI n0, vI n1]) (n := 2) (rest := []) dX5_posts_49 rfl rfl rfl rfl rfl rfl (Nat.le_of_ble_eq_true rfl) (Nat.le_of_ble_eq_true rfl) (Nat.le_of_ble_eq_true rfl) rfl
theorem eX5_posts_52 : ev X m_X5_posts 52 [vR r, a1, a2, a3] st mem = ev X m_X5_posts 53 [vR r, a1, a2, a3] (vR r :: st) mem := ke_aload_n rfl dX5_posts_52
theorem eX5_posts_53 : ev X m_X5_posts 53 [a0, a1, a2, a3] (vR r :: st) mem = evb X (fget mem r 5 12) m_X5_posts 56 [a0, a1, a2, a3] st mem := ke_getf rfl dX5_posts_53
theorem eX5_posts_56 : ev X m_X5_posts 56 [a0, a1, a2, a3] st mem = ev X m_X5_posts 57 [a0, a1, a2, a3] (vI 1 :: st) mem := ke_iconst (by decide) dX5_posts_56
theorem eX5_posts_57 : ev X m_X5_posts 57 [a0, a1, a2, a3] (vI y :: vI x :: st) mem = ev X m_X5_posts 58 [a0, a1, a2, a3] (vI (w32 (x - y)) :: st) mem := ke_isub dX5_posts_57
theorem eX5_posts_58 : ev X m_X5_posts 58 [a0, a1, a2, a3] [vI x] mem = some (some (vI x), mem) := ke_ireturn dX5_posts_58 rfl
theorem eX5_hates_0 : ev X m_X5_hates 0 [vR r, a1, a2, a3, a4, a5] st mem = ev X m_X5_hates 1 [vR r, a1, a2, a3, a4, a5] (vR r :: st) mem := ke_aload_n rfl dX5_hates_0
theorem eX5_hates_1 : ev X m_X5_hates 1 [a0, vI x, a2, a3, a4, a5] st mem = ev X m_X5_hates 2 [a0, vI x, a2, a3, a4, a5] (vI x :: st) mem := ke_iload_n rfl dX5_hates_1
theorem eX5_hates_2 : ev X m_X5_hates 2 [a0, a1, vI x, a3, a4, a5] st mem = ev X m_X5_hates 3 [a0, a1, vI x, a3, a4, a5] (vI x :: st) mem := ke_iload_n rfl dX5_hates_2
theorem eX5_hates_3 : ev X m_X5_hates 3 [a0, a1, a2, a3, a4, a5] (vI n1 :: vI n0 :: vR r :: []) mem = evc X (gR mem r 5 (ev X m_X5_areTwo 0 [vR r, vI n0, vI n1] [] mem)) m_X5_hates 6 [a0, a1, a2, a3, a4, a5] [] := ke_callV (m' := m_X5_areTwo) (as := [vI n0, vI n1]) (n := 2) (rest := []) dX5_hates_3 rfl rfl rfl rfl rfl rfl (Nat.le_of_ble_eq_true rfl) (Nat.le_of_ble_eq_true rfl) (Nat.le_of_ble_eq_true rfl) rfl
theorem eX5_hates_6 : ev X m_X5_hates 6 [a0, a1, a2, a3, a4, a5] (vI x :: st) mem = if x = 0 then ev X m_X5_hates 9 [a0, a1, a2, a3, a4, a5] st mem else ev X m_X5_hates 13 [a0, a1, a2, a3, a4, a5] st mem := ke_if_ne dX5_hates_6 rfl
theorem eX5_hates_9 : ev X m_X5_hates 9 [a0, a1, a2, a3, a4, a5] st mem = ev X m_X5_hates 10 [a0, a1, a2, a3, a4, a5] (vI (-1) :: st) mem := ke_iconst (by decide) dX5_hates_9
theorem eX5_hates_10 : ev X m_X5_hates 10 [a0, a1, a2, a3, a4, a5] st mem = ev X m_X5_hates 20 [a0, a1, a2, a3, a4, a5] st mem := ke_goto dX5_hates_10 rfl
theorem eX5_hates_13 : ev X m_X5_hates 13 [a0, a1, a2, vI x, a4, a5] st mem = ev X m_X5_hates 14 [a0, a1, a2, vI x, a4, a5] (vI x :: st) mem := ke_iload_n rfl dX5_hates_13
theorem eX5_hates_14 : ev X m_X5_hates 14 [a0, a1, a2, a3, a4, a5] st mem = ev X m_X5_hates 15 [a0, a1, a2, a3, a4, a5] (vI 0 :: st) mem := ke_iconst (by decide) dX5_hates_14
theorem eX5_hates_15 : ev X m_X5_hates 15 [a0, a1, a2, a3, a4, a5] st mem = ev X m_X5_hates 17 [a0, a1, a2, a3, a4, a5] (vI 99 :: st) mem := ke_bipush (by decide) dX5_hates_15
theorem eX5_hates_17 : ev X m_X5_hates 17 [a0, a1, a2, a3, a4, a5] (vI n2 :: vI n1 :: vI n0 :: []) mem = evc X (ev X m_X5_bound 0 [vI n0, vI n1, vI n2] [] mem) m_X5_hates 20 [a0, a1, a2, a3, a4, a5] [] := ke_callS (m' := m_X5_bound) (as := [vI n0, vI n1, vI n2]) (n := 3) (rest := []) dX5_hates_17 rfl (by decide) rfl rfl rfl rfl rfl (Nat.le_of_ble_eq_true rfl) (Nat.le_of_ble_eq_true rfl) rfl
theorem eX5_hates_20 : ev X m_X5_hates 20 [a0, a1, a2, a3, a4, a5] (vI x :: st) mem = ev X m_X5_hates 22 [a0, a1, a2, a3, vI x, a5] st mem := ke_istore (Nat.le_of_ble_eq_true rfl) rfl dX5_hates_20
theorem eX5_hates_22 : ev X m_X5_hates 22 [a0, a1, a2, a3, vI x, a5] st mem = ev X m_X5_hates 24 [a0, a1, a2, a3, vI x, a5] (vI x :: st) mem := ke_iload rfl dX5_hates_22
theorem eX5_hates_24 : ev X m_X5_hates 24 [a0, a1, a2, a3, a4, a5] (vI x :: st) mem = if x = 0 then ev X m_X5_hates 34 [a0, a1, a2, a3, a4, a5] st mem else ev X m_X5_hates 27 [a0, a1, a2, a3, a4, a5] st mem := ke_if_eq dX5_hates_24 rfl
theorem eX5_hates_27 : ev X m_X5_hates 27 [vR r, a1, a2, a3, a4, a5] st mem = ev X m_X5_hates 28 [vR r, a1, a2, a3, a4, a5] (vR r :: st) mem := ke_aload_n rfl dX5_hates_27
theorem eX5_hates_28 : ev X m_X5_hates 28 [a0, a1, a2, a3, vI x, a5] st mem = ev X m_X5_hates 30 [a0, a1, a2, a3, vI x, a5] (vI x :: st) mem := ke_iload rfl dX5_hates_28
theorem eX5_hates_30 : ev X m_X5_hates 30 [a0, a1, a2, a3, a4, a5] (vI n0 :: vR r :: []) mem = evc X (gR mem r 5 (ev X m_X5_no 0 [vR r, vI n0] [] mem)) m_X5_hates 33 [a0, a1, a2, a3, a4, a5] [] := ke_callV (m' := m_X5_no) (as := [vI n0]) (n := 1) (rest := []) dX5_hates_30 rfl rfl rfl rfl rfl rfl (Nat.le_of_ble_eq_true rfl) (Nat.le_of_ble_eq_true rfl) (Nat.le_of_ble_eq_true rfl) rfl
theorem eX5_hates_33 : ev X m_X5_hates 33 [a0, a1, a2, a3, a4, a5] [vI x] mem = some (some (vI x), mem) := ke_ireturn dX5_hates_33 rfl
theorem eX5_hates_34 : ev X m_X5_hates 34 [vR r, a1, a2, a3, a4, a5] st mem = ev X m_X5_hates 35 [vR r, a1, a2, a3, a4, a5] (vR r :: st) mem := ke_aload_n rfl dX5_hates_34
theorem eX5_hates_35 : ev X m_X5_hates 35 [a0, a1, a2, a3, a4, a5] (vR r :: st) mem = evb X (fget mem r 5 5) m_X5_hates 38 [a0, a1, a2, a3, a4, a5] st mem := ke_getf rfl dX5_hates_35
theorem eX5_hates_38 : ev X m_X5_hates 38 [a0, vI x, a2, a3, a4, a5] st mem = ev X m_X5_hates 39 [a0, vI x, a2, a3, a4, a5] (vI x :: st) mem := ke_iload_n rfl dX5_hates_38
theorem eX5_hates_39 : ev X m_X5_hates 39 [a0, a1, vI x, a3, a4, a5] st mem = ev X m_X5_hates 40 [a0, a1, vI x, a3, a4, a5] (vI x :: st) mem := ke_iload_n rfl dX5_hates_39
theorem eX5_hates_40 : ev X m_X5_hates 40 [a0, a1, a2, a3, a4, a5] (vI n1 :: vI n0 :: [s0]) mem = evc X (ev X m_X5_spot 0 [vI n0, vI n1] [] mem) m_X5_hates 43 [a0, a1, a2, a3, a4, a5] [s0] := ke_callS (m' := m_X5_spot) (as := [vI n0, vI n1]) (n := 2) (rest := [s0]) dX5_hates_40 rfl (by decide) rfl rfl rfl rfl rfl (Nat.le_of_ble_eq_true rfl) (Nat.le_of_ble_eq_true rfl) rfl
theorem eX5_hates_43 : ev X m_X5_hates 43 [a0, a1, a2, a3, a4, a5] (vI x :: vR r :: st) mem = evb X (aget mem r x) m_X5_hates 44 [a0, a1, a2, a3, a4, a5] st mem := ke_iaload dX5_hates_43
theorem eX5_hates_44 : ev X m_X5_hates 44 [a0, a1, a2, a3, a4, a5] (vI x :: st) mem = ev X m_X5_hates 46 [a0, a1, a2, a3, a4, vI x] st mem := ke_istore (Nat.le_of_ble_eq_true rfl) rfl dX5_hates_44
theorem eX5_hates_46 : ev X m_X5_hates 46 [vR r, a1, a2, a3, a4, a5] st mem = ev X m_X5_hates 47 [vR r, a1, a2, a3, a4, a5] (vR r :: st) mem := ke_aload_n rfl dX5_hates_46
theorem eX5_hates_47 : ev X m_X5_hates 47 [a0, a1, a2, a3, a4, a5] (vR r :: st) mem = evb X (fget mem r 5 5) m_X5_hates 50 [a0, a1, a2, a3, a4, a5] st mem := ke_getf rfl dX5_hates_47
theorem eX5_hates_50 : ev X m_X5_hates 50 [a0, vI x, a2, a3, a4, a5] st mem = ev X m_X5_hates 51 [a0, vI x, a2, a3, a4, a5] (vI x :: st) mem := ke_iload_n rfl dX5_hates_50
theorem eX5_hates_51 : ev X m_X5_hates 51 [a0, a1, vI x, a3, a4, a5] st mem = ev X m_X5_hates 52 [a0, a1, vI x, a3, a4, a5] (vI x :: st) mem := ke_iload_n rfl dX5_hates_51
theorem eX5_hates_52 : ev X m_X5_hates 52 [a0, a1, a2, a3, a4, a5] (vI n1 :: vI n0 :: [s0]) mem = evc X (ev X m_X5_spot 0 [vI n0, vI n1] [] mem) m_X5_hates 55 [a0, a1, a2, a3, a4, a5] [s0] := ke_callS (m' := m_X5_spot) (as := [vI n0, vI n1]) (n := 2) (rest := [s0]) dX5_hates_52 rfl (by decide) rfl rfl rfl rfl rfl (Nat.le_of_ble_eq_true rfl) (Nat.le_of_ble_eq_true rfl) rfl
theorem eX5_hates_55 : ev X m_X5_hates 55 [a0, a1, a2, vI x, a4, a5] st mem = ev X m_X5_hates 56 [a0, a1, a2, vI x, a4, a5] (vI x :: st) mem := ke_iload_n rfl dX5_hates_55
theorem eX5_hates_56 : ev X m_X5_hates 56 [a0, a1, a2, a3, a4, a5] (vI y :: vI x :: vR r :: st) mem = evm X (aput mem r x y) m_X5_hates 57 [a0, a1, a2, a3, a4, a5] st := ke_iastore dX5_hates_56
theorem eX5_hates_57 : ev X m_X5_hates 57 [a0, a1, a2, a3, a4, vI x] st mem = ev X m_X5_hates 59 [a0, a1, a2, a3, a4, vI x] (vI x :: st) mem := ke_iload rfl dX5_hates_57
theorem eX5_hates_59 : ev X m_X5_hates 59 [a0, a1, a2, a3, a4, a5] [vI x] mem = some (some (vI x), mem) := ke_ireturn dX5_hates_59 rfl
theorem eX5_slights_0 : ev X m_X5_slights 0 [vR r, a1, a2] st mem = ev X m_X5_slights 1 [vR r, a1, a2] (vR r :: st) mem := ke_aload_n rfl dX5_slights_0
theorem eX5_slights_1 : ev X m_X5_slights 1 [a0, vI x, a2] st mem = ev X m_X5_slights 2 [a0, vI x, a2] (vI x :: st) mem := ke_iload_n rfl dX5_slights_1
theorem eX5_slights_2 : ev X m_X5_slights 2 [a0, a1, vI x] st mem = ev X m_X5_slights 3 [a0, a1, vI x] (vI x :: st) mem := ke_iload_n rfl dX5_slights_2
theorem eX5_slights_3 : ev X m_X5_slights 3 [a0, a1, a2] (vI n1 :: vI n0 :: vR r :: []) mem = evc X (gR mem r 5 (ev X m_X5_areTwo 0 [vR r, vI n0, vI n1] [] mem)) m_X5_slights 6 [a0, a1, a2] [] := ke_callV (m' := m_X5_areTwo) (as := [vI n0, vI n1]) (n := 2) (rest := []) dX5_slights_3 rfl rfl rfl rfl rfl rfl (Nat.le_of_ble_eq_true rfl) (Nat.le_of_ble_eq_true rfl) (Nat.le_of_ble_eq_true rfl) rfl
theorem eX5_slights_6 : ev X m_X5_slights 6 [a0, a1, a2] (vI x :: st) mem = if x = 0 then ev X m_X5_slights 9 [a0, a1, a2] st mem else ev X m_X5_slights 15 [a0, a1, a2] st mem := ke_if_ne dX5_slights_6 rfl
theorem eX5_slights_9 : ev X m_X5_slights 9 [vR r, a1, a2] st mem = ev X m_X5_slights 10 [vR r, a1, a2] (vR r :: st) mem := ke_aload_n rfl dX5_slights_9
theorem eX5_slights_10 : ev X m_X5_slights 10 [a0, a1, a2] st mem = ev X m_X5_slights 11 [a0, a1, a2] (vI (-1) :: st) mem := ke_iconst (by decide) dX5_slights_10
theorem eX5_slights_11 : ev X m_X5_slights 11 [a0, a1, a2] (vI n0 :: vR r :: []) mem = evc X (gR mem r 5 (ev X m_X5_no 0 [vR r, vI n0] [] mem)) m_X5_slights 14 [a0, a1, a2] [] := ke_callV (m' := m_X5_no) (as := [vI n0]) (n := 1) (rest := []) dX5_slights_11 rfl rfl rfl rfl rfl rfl (Nat.le_of_ble_eq_true rfl) (Nat.le_of_ble_eq_true rfl) (Nat.le_of_ble_eq_true rfl) rfl
theorem eX5_slights_14 : ev X m_X5_slights 14 [a0, a1, a2] [vI x] mem = some (some (vI x), mem) := ke_ireturn dX5_slights_14 rfl
theorem eX5_slights_15 : ev X m_X5_slights 15 [vR r, a1, a2] st mem = ev X m_X5_slights 16 [vR r, a1, a2] (vR r :: st) mem := ke_aload_n rfl dX5_slights_15
theorem eX5_slights_16 : ev X m_X5_slights 16 [a0, vI x, a2] st mem = ev X m_X5_slights 17 [a0, vI x, a2] (vI x :: st) mem := ke_iload_n rfl dX5_slights_16
theorem eX5_slights_17 : ev X m_X5_slights 17 [a0, a1, vI x] st mem = ev X m_X5_slights 18 [a0, a1, vI x] (vI x :: st) mem := ke_iload_n rfl dX5_slights_17
theorem eX5_slights_18 : ev X m_X5_slights 18 [a0, a1, a2] st mem = ev X m_X5_slights 19 [a0, a1, a2] (vI 1 :: st) mem := ke_iconst (by decide) dX5_slights_18
theorem eX5_slights_19 : ev X m_X5_slights 19 [a0, a1, a2] (vI n2 :: vI n1 :: vI n0 :: vR r :: []) mem = evc X (gR mem r 5 (ev X m_X5_slighted 0 [vR r, vI n0, vI n1, vI n2] [] mem)) m_X5_slights 22 [a0, a1, a2] [] := ke_callV (m' := m_X5_slighted) (as := [vI n0, vI n1, vI n2]) (n := 3) (rest := []) dX5_slights_19 rfl rfl rfl rfl rfl rfl (Nat.le_of_ble_eq_true rfl) (Nat.le_of_ble_eq_true rfl) (Nat.le_of_ble_eq_true rfl) rfl
theorem eX5_slights_22 : ev X m_X5_slights 22 [vR r, a1, a2] st mem = ev X m_X5_slights 23 [vR r, a1, a2] (vR r :: st) mem := ke_aload_n rfl dX5_slights_22
theorem eX5_slights_23 : ev X m_X5_slights 23 [a0, a1, a2] (vR r :: st) mem = evb X (fget mem r 5 5) m_X5_slights 26 [a0, a1, a2] st mem := ke_getf rfl dX5_slights_23
theorem eX5_slights_26 : ev X m_X5_slights 26 [a0, vI x, a2] st mem = ev X m_X5_slights 27 [a0, vI x, a2] (vI x :: st) mem := ke_iload_n rfl dX5_slights_26
theorem eX5_slights_27 : ev X m_X5_slights 27 [a0, a1, vI x] st mem = ev X m_X5_slights 28 [a0, a1, vI x] (vI x :: st) mem := ke_iload_n rfl dX5_slights_27
theorem eX5_slights_28 : ev X m_X5_slights 28 [a0, a1, a2] (vI n1 :: vI n0 :: [s0]) mem = evc X (ev X m_X5_spot 0 [vI n0, vI n1] [] mem) m_X5_slights 31 [a0, a1, a2] [s0] := ke_callS (m' := m_X5_spot) (as := [vI n0, vI n1]) (n := 2) (rest := [s0]) dX5_slights_28 rfl (by decide) rfl rfl rfl rfl rfl (Nat.le_of_ble_eq_true rfl) (Nat.le_of_ble_eq_true rfl) rfl
theorem eX5_slights_31 : ev X m_X5_slights 31 [a0, a1, a2] (vI x :: vR r :: st) mem = evb X (aget mem r x) m_X5_slights 32 [a0, a1, a2] st mem := ke_iaload dX5_slights_31
theorem eX5_slights_32 : ev X m_X5_slights 32 [a0, a1, a2] [vI x] mem = some (some (vI x), mem) := ke_ireturn dX5_slights_32 rfl
theorem eX5_peace_0 : ev X m_X5_peace 0 [vR r, a1, a2] st mem = ev X m_X5_peace 1 [vR r, a1, a2] (vR r :: st) mem := ke_aload_n rfl dX5_peace_0
theorem eX5_peace_1 : ev X m_X5_peace 1 [a0, vI x, a2] st mem = ev X m_X5_peace 2 [a0, vI x, a2] (vI x :: st) mem := ke_iload_n rfl dX5_peace_1
theorem eX5_peace_2 : ev X m_X5_peace 2 [a0, a1, vI x] st mem = ev X m_X5_peace 3 [a0, a1, vI x] (vI x :: st) mem := ke_iload_n rfl dX5_peace_2
theorem eX5_peace_3 : ev X m_X5_peace 3 [a0, a1, a2] (vI n1 :: vI n0 :: vR r :: []) mem = evc X (gR mem r 5 (ev X m_X5_areTwo 0 [vR r, vI n0, vI n1] [] mem)) m_X5_peace 6 [a0, a1, a2] [] := ke_callV (m' := m_X5_areTwo) (as := [vI n0, vI n1]) (n := 2) (rest := []) dX5_peace_3 rfl rfl rfl rfl rfl rfl (Nat.le_of_ble_eq_true rfl) (Nat.le_of_ble_eq_true rfl) (Nat.le_of_ble_eq_true rfl) rfl
theorem eX5_peace_6 : ev X m_X5_peace 6 [a0, a1, a2] (vI x :: st) mem = if x = 0 then ev X m_X5_peace 9 [a0, a1, a2] st mem else ev X m_X5_peace 15 [a0, a1, a2] st mem := ke_if_ne dX5_peace_6 rfl
theorem eX5_peace_9 : ev X m_X5_peace 9 [vR r, a1, a2] st mem = ev X m_X5_peace 10 [vR r, a1, a2] (vR r :: st) mem := ke_aload_n rfl dX5_peace_9
theorem eX5_peace_10 : ev X m_X5_peace 10 [a0, a1, a2] st mem = ev X m_X5_peace 11 [a0, a1, a2] (vI (-1) :: st) mem := ke_iconst (by decide) dX5_peace_10
theorem eX5_peace_11 : ev X m_X5_peace 11 [a0, a1, a2] (vI n0 :: vR r :: []) mem = evc X (gR mem r 5 (ev X m_X5_no 0 [vR r, vI n0] [] mem)) m_X5_peace 14 [a0, a1, a2] [] := ke_callV (m' := m_X5_no) (as := [vI n0]) (n := 1) (rest := []) dX5_peace_11 rfl rfl rfl rfl rfl rfl (Nat.le_of_ble_eq_true rfl) (Nat.le_of_ble_eq_true rfl) (Nat.le_of_ble_eq_true rfl) rfl
theorem eX5_peace_14 : ev X m_X5_peace 14 [a0, a1, a2] [vI x] mem = some (some (vI x), mem) := ke_ireturn dX5_peace_14 rfl
theorem eX5_peace_15 : ev X m_X5_peace 15 [vR r, a1, a2] st mem = ev X m_X5_peace 16 [vR r, a1, a2] (vR r :: st) mem := ke_aload_n rfl dX5_peace_15
theorem eX5_peace_16 : ev X m_X5_peace 16 [a0, vI x, a2] st mem = ev X m_X5_peace 17 [a0, vI x, a2] (vI x :: st) mem := ke_iload_n rfl dX5_peace_16
theorem eX5_peace_17 : ev X m_X5_peace 17 [a0, a1, vI x] st mem = ev X m_X5_peace 18 [a0, a1, vI x] (vI x :: st) mem := ke_iload_n rfl dX5_peace_17
theorem eX5_peace_18 : ev X m_X5_peace 18 [a0, a1, a2] (vI n1 :: vI n0 :: vR r :: []) mem = evc X (gR mem r 5 (ev X m_X5_madeUp 0 [vR r, vI n0, vI n1] [] mem)) m_X5_peace 21 [a0, a1, a2] [] := ke_callV (m' := m_X5_madeUp) (as := [vI n0, vI n1]) (n := 2) (rest := []) dX5_peace_18 rfl rfl rfl rfl rfl rfl (Nat.le_of_ble_eq_true rfl) (Nat.le_of_ble_eq_true rfl) (Nat.le_of_ble_eq_true rfl) rfl
theorem eX5_peace_21 : ev X m_X5_peace 21 [vR r, a1, a2] st mem = ev X m_X5_peace 22 [vR r, a1, a2] (vR r :: st) mem := ke_aload_n rfl dX5_peace_21
theorem eX5_peace_22 : ev X m_X5_peace 22 [a0, a1, a2] (vR r :: st) mem = evb X (fget mem r 5 5) m_X5_peace 25 [a0, a1, a2] st mem := ke_getf rfl dX5_peace_22
theorem eX5_peace_25 : ev X m_X5_peace 25 [a0, vI x, a2] st mem = ev X m_X5_peace 26 [a0, vI x, a2] (vI x :: st) mem := ke_iload_n rfl dX5_peace_25
theorem eX5_peace_26 : ev X m_X5_peace 26 [a0, a1, vI x] st mem = ev X m_X5_peace 27 [a0, a1, vI x] (vI x :: st) mem := ke_iload_n rfl dX5_peace_26
theorem eX5_peace_27 : ev X m_X5_peace 27 [a0, a1, a2] (vI n1 :: vI n0 :: [s0]) mem = evc X (ev X m_X5_spot 0 [vI n0, vI n1] [] mem) m_X5_peace 30 [a0, a1, a2] [s0] := ke_callS (m' := m_X5_spot) (as := [vI n0, vI n1]) (n := 2) (rest := [s0]) dX5_peace_27 rfl (by decide) rfl rfl rfl rfl rfl (Nat.le_of_ble_eq_true rfl) (Nat.le_of_ble_eq_true rfl) rfl
theorem eX5_peace_30 : ev X m_X5_peace 30 [a0, a1, a2] (vI x :: vR r :: st) mem = evb X (aget mem r x) m_X5_peace 31 [a0, a1, a2] st mem := ke_iaload dX5_peace_30
theorem eX5_peace_31 : ev X m_X5_peace 31 [vR r, a1, a2] st mem = ev X m_X5_peace 32 [vR r, a1, a2] (vR r :: st) mem := ke_aload_n rfl dX5_peace_31
theorem eX5_peace_32 : ev X m_X5_peace 32 [a0, a1, a2] (vR r :: st) mem = evb X (fget mem r 5 5) m_X5_peace 35 [a0, a1, a2] st mem := ke_getf rfl dX5_peace_32
theorem eX5_peace_35 : ev X m_X5_peace 35 [a0, a1, vI x] st mem = ev X m_X5_peace 36 [a0, a1, vI x] (vI x :: st) mem := ke_iload_n rfl dX5_peace_35
theorem eX5_peace_36 : ev X m_X5_peace 36 [a0, vI x, a2] st mem = ev X m_X5_peace 37 [a0, vI x, a2] (vI x :: st) mem := ke_iload_n rfl dX5_peace_36
theorem eX5_peace_37 : ev X m_X5_peace 37 [a0, a1, a2] (vI n1 :: vI n0 :: [s0, s1]) mem = evc X (ev X m_X5_spot 0 [vI n0, vI n1] [] mem) m_X5_peace 40 [a0, a1, a2] [s0, s1] := ke_callS (m' := m_X5_spot) (as := [vI n0, vI n1]) (n := 2) (rest := [s0, s1]) dX5_peace_37 rfl (by decide) rfl rfl rfl rfl rfl (Nat.le_of_ble_eq_true rfl) (Nat.le_of_ble_eq_true rfl) rfl
theorem eX5_peace_40 : ev X m_X5_peace 40 [a0, a1, a2] (vI x :: vR r :: st) mem = evb X (aget mem r x) m_X5_peace 41 [a0, a1, a2] st mem := ke_iaload dX5_peace_40
theorem eX5_peace_41 : ev X m_X5_peace 41 [a0, a1, a2] (vI y :: vI x :: st) mem = ev X m_X5_peace 42 [a0, a1, a2] (vI (w32 (x + y)) :: st) mem := ke_iadd dX5_peace_41
theorem eX5_peace_42 : ev X m_X5_peace 42 [a0, a1, a2] [vI x] mem = some (some (vI x), mem) := ke_ireturn dX5_peace_42 rfl
theorem eX5_moves_0 : ev X m_X5_moves 0 [vR r, a1, a2, a3, a4] st mem = ev X m_X5_moves 1 [vR r, a1, a2, a3, a4] (vR r :: st) mem := ke_aload_n rfl dX5_moves_0
theorem eX5_moves_1 : ev X m_X5_moves 1 [a0, vI x, a2, a3, a4] st mem = ev X m_X5_moves 2 [a0, vI x, a2, a3, a4] (vI x :: st) mem := ke_iload_n rfl dX5_moves_1
theorem eX5_moves_2 : ev X m_X5_moves 2 [a0, a1, a2, a3, a4] (vI n0 :: vR r :: []) mem = evc X (gR mem r 5 (ev X m_X5_isOne 0 [vR r, vI n0] [] mem)) m_X5_moves 5 [a0, a1, a2, a3, a4] [] := ke_callV (m' := m_X5_isOne) (as := [vI n0]) (n := 1) (rest := []) dX5_moves_2 rfl rfl rfl rfl rfl rfl (Nat.le_of_ble_eq_true rfl) (Nat.le_of_ble_eq_true rfl) (Nat.le_of_ble_eq_true rfl) rfl
theorem eX5_moves_5 : ev X m_X5_moves 5 [a0, a1, a2, a3, a4] (vI x :: st) mem = if x = 0 then ev X m_X5_moves 8 [a0, a1, a2, a3, a4] st mem else ev X m_X5_moves 12 [a0, a1, a2, a3, a4] st mem := ke_if_ne dX5_moves_5 rfl
theorem eX5_moves_8 : ev X m_X5_moves 8 [a0, a1, a2, a3, a4] st mem = ev X m_X5_moves 9 [a0, a1, a2, a3, a4] (vI (-1) :: st) mem := ke_iconst (by decide) dX5_moves_8
theorem eX5_moves_9 : ev X m_X5_moves 9 [a0, a1, a2, a3, a4] st mem = ev X m_X5_moves 19 [a0, a1, a2, a3, a4] st mem := ke_goto dX5_moves_9 rfl
theorem eX5_moves_12 : ev X m_X5_moves 12 [a0, a1, vI x, a3, a4] st mem = ev X m_X5_moves 13 [a0, a1, vI x, a3, a4] (vI x :: st) mem := ke_iload_n rfl dX5_moves_12
theorem eX5_moves_13 : ev X m_X5_moves 13 [a0, a1, a2, a3, a4] st mem = ev X m_X5_moves 14 [a0, a1, a2, a3, a4] (vI 0 :: st) mem := ke_iconst (by decide) dX5_moves_13
theorem eX5_moves_14 : ev X m_X5_moves 14 [a0, a1, a2, a3, a4] st mem = ev X m_X5_moves 16 [a0, a1, a2, a3, a4] (vI 30 :: st) mem := ke_bipush (by decide) dX5_moves_14
theorem eX5_moves_16 : ev X m_X5_moves 16 [a0, a1, a2, a3, a4] (vI n2 :: vI n1 :: vI n0 :: []) mem = evc X (ev X m_X5_bound 0 [vI n0, vI n1, vI n2] [] mem) m_X5_moves 19 [a0, a1, a2, a3, a4] [] := ke_callS (m' := m_X5_bound) (as := [vI n0, vI n1, vI n2]) (n := 3) (rest := []) dX5_moves_16 rfl (by decide) rfl rfl rfl rfl rfl (Nat.le_of_ble_eq_true rfl) (Nat.le_of_ble_eq_true rfl) rfl
theorem eX5_moves_19 : ev X m_X5_moves 19 [a0, a1, a2, a3, a4] (vI x :: st) mem = ev X m_X5_moves 20 [a0, a1, a2, vI x, a4] st mem := ke_istore_n (Nat.le_of_ble_eq_true rfl) rfl dX5_moves_19
theorem eX5_moves_20 : ev X m_X5_moves 20 [a0, a1, a2, vI x, a4] st mem = ev X m_X5_moves 21 [a0, a1, a2, vI x, a4] (vI x :: st) mem := ke_iload_n rfl dX5_moves_20
theorem eX5_moves_21 : ev X m_X5_moves 21 [a0, a1, a2, a3, a4] (vI x :: st) mem = if x = 0 then ev X m_X5_moves 30 [a0, a1, a2, a3, a4] st mem else ev X m_X5_moves 24 [a0, a1, a2, a3, a4] st mem := ke_if_eq dX5_moves_21 rfl
theorem eX5_moves_24 : ev X m_X5_moves 24 [vR r, a1, a2, a3, a4] st mem = ev X m_X5_moves 25 [vR r, a1, a2, a3, a4] (vR r :: st) mem := ke_aload_n rfl dX5_moves_24
theorem eX5_moves_25 : ev X m_X5_moves 25 [a0, a1, a2, vI x, a4] st mem = ev X m_X5_moves 26 [a0, a1, a2, vI x, a4] (vI x :: st) mem := ke_iload_n rfl dX5_moves_25
theorem eX5_moves_26 : ev X m_X5_moves 26 [a0, a1, a2, a3, a4] (vI n0 :: vR r :: []) mem = evc X (gR mem r 5 (ev X m_X5_no 0 [vR r, vI n0] [] mem)) m_X5_moves 29 [a0, a1, a2, a3, a4] [] := ke_callV (m' := m_X5_no) (as := [vI n0]) (n := 1) (rest := []) dX5_moves_26 rfl rfl rfl rfl rfl rfl (Nat.le_of_ble_eq_true rfl) (Nat.le_of_ble_eq_true rfl) (Nat.le_of_ble_eq_true rfl) rfl
theorem eX5_moves_29 : ev X m_X5_moves 29 [a0, a1, a2, a3, a4] [vI x] mem = some (some (vI x), mem) := ke_ireturn dX5_moves_29 rfl
theorem eX5_moves_30 : ev X m_X5_moves 30 [vR r, a1, a2, a3, a4] st mem = ev X m_X5_moves 31 [vR r, a1, a2, a3, a4] (vR r :: st) mem := ke_aload_n rfl dX5_moves_30
theorem eX5_moves_31 : ev X m_X5_moves 31 [a0, a1, a2, a3, a4] (vR r :: st) mem = evb X (fget mem r 5 3) m_X5_moves 34 [a0, a1, a2, a3, a4] st mem := ke_getf rfl dX5_moves_31
theorem eX5_moves_34 : ev X m_X5_moves 34 [a0, vI x, a2, a3, a4] st mem = ev X m_X5_moves 35 [a0, vI x, a2, a3, a4] (vI x :: st) mem := ke_iload_n rfl dX5_moves_34
theorem eX5_moves_35 : ev X m_X5_moves 35 [a0, a1, a2, a3, a4] (vI x :: vR r :: st) mem = evb X (aget mem r x) m_X5_moves 36 [a0, a1, a2, a3, a4] st mem := ke_iaload dX5_moves_35
theorem eX5_moves_36 : ev X m_X5_moves 36 [a0, a1, a2, a3, a4] (vI x :: st) mem = ev X m_X5_moves 38 [a0, a1, a2, a3, vI x] st mem := ke_istore (Nat.le_of_ble_eq_true rfl) rfl dX5_moves_36
theorem eX5_moves_38 : ev X m_X5_moves 38 [vR r, a1, a2, a3, a4] st mem = ev X m_X5_moves 39 [vR r, a1, a2, a3, a4] (vR r :: st) mem := ke_aload_n rfl dX5_moves_38
theorem eX5_moves_39 : ev X m_X5_moves 39 [a0, a1, a2, a3, a4] (vR r :: st) mem = evb X (fget mem r 5 3) m_X5_moves 42 [a0, a1, a2, a3, a4] st mem := ke_getf rfl dX5_moves_39
theorem eX5_moves_42 : ev X m_X5_moves 42 [a0, vI x, a2, a3, a4] st mem = ev X m_X5_moves 43 [a0, vI x, a2, a3, a4] (vI x :: st) mem := ke_iload_n rfl dX5_moves_42
theorem eX5_moves_43 : ev X m_X5_moves 43 [a0, a1, vI x, a3, a4] st mem = ev X m_X5_moves 44 [a0, a1, vI x, a3, a4] (vI x :: st) mem := ke_iload_n rfl dX5_moves_43
theorem eX5_moves_44 : ev X m_X5_moves 44 [a0, a1, a2, a3, a4] (vI y :: vI x :: vR r :: st) mem = evm X (aput mem r x y) m_X5_moves 45 [a0, a1, a2, a3, a4] st := ke_iastore dX5_moves_44
theorem eX5_moves_45 : ev X m_X5_moves 45 [a0, a1, a2, a3, vI x] st mem = ev X m_X5_moves 47 [a0, a1, a2, a3, vI x] (vI x :: st) mem := ke_iload rfl dX5_moves_45
theorem eX5_moves_47 : ev X m_X5_moves 47 [a0, a1, a2, a3, a4] [vI x] mem = some (some (vI x), mem) := ke_ireturn dX5_moves_47 rfl
theorem eX5_turn_0 : ev X m_X5_turn 0 [vR r, a1, a2, a3, a4, a5] st mem = ev X m_X5_turn 1 [vR r, a1, a2, a3, a4, a5] (vR r :: st) mem := ke_aload_n rfl dX5_turn_0
theorem eX5_turn_1 : ev X m_X5_turn 1 [a0, vI x, a2, a3, a4, a5] st mem = ev X m_X5_turn 2 [a0, vI x, a2, a3, a4, a5] (vI x :: st) mem := ke_iload_n rfl dX5_turn_1
theorem eX5_turn_2 : ev X m_X5_turn 2 [a0, a1, a2, a3, a4, a5] (vI n0 :: vR r :: []) mem = evc X (gR mem r 5 (ev X m_X5_isOne 0 [vR r, vI n0] [] mem)) m_X5_turn 5 [a0, a1, a2, a3, a4, a5] [] := ke_callV (m' := m_X5_isOne) (as := [vI n0]) (n := 1) (rest := []) dX5_turn_2 rfl rfl rfl rfl rfl rfl (Nat.le_of_ble_eq_true rfl) (Nat.le_of_ble_eq_true rfl) (Nat.le_of_ble_eq_true rfl) rfl
theorem eX5_turn_5 : ev X m_X5_turn 5 [a0, a1, a2, a3, a4, a5] (vI x :: st) mem = if x = 0 then ev X m_X5_turn 8 [a0, a1, a2, a3, a4, a5] st mem else ev X m_X5_turn 12 [a0, a1, a2, a3, a4, a5] st mem := ke_if_ne dX5_turn_5 rfl
theorem eX5_turn_8 : ev X m_X5_turn 8 [a0, a1, a2, a3, a4, a5] st mem = ev X m_X5_turn 9 [a0, a1, a2, a3, a4, a5] (vI (-1) :: st) mem := ke_iconst (by decide) dX5_turn_8
theorem eX5_turn_9 : ev X m_X5_turn 9 [a0, a1, a2, a3, a4, a5] st mem = ev X m_X5_turn 33 [a0, a1, a2, a3, a4, a5] st mem := ke_goto dX5_turn_9 rfl
theorem eX5_turn_12 : ev X m_X5_turn 12 [a0, a1, vI x, a3, a4, a5] st mem = ev X m_X5_turn 13 [a0, a1, vI x, a3, a4, a5] (vI x :: st) mem := ke_iload_n rfl dX5_turn_12
theorem eX5_turn_13 : ev X m_X5_turn 13 [a0, a1, a2, a3, a4, a5] st mem = ev X m_X5_turn 14 [a0, a1, a2, a3, a4, a5] (vI 0 :: st) mem := ke_iconst (by decide) dX5_turn_13
theorem eX5_turn_14 : ev X m_X5_turn 14 [a0, a1, a2, a3, a4, a5] st mem = ev X m_X5_turn 15 [a0, a1, a2, a3, a4, a5] (vI 5 :: st) mem := ke_iconst (by decide) dX5_turn_14
theorem eX5_turn_15 : ev X m_X5_turn 15 [a0, a1, a2, a3, a4, a5] (vI n2 :: vI n1 :: vI n0 :: []) mem = evc X (ev X m_X5_isIn 0 [vI n0, vI n1, vI n2] [] mem) m_X5_turn 18 [a0, a1, a2, a3, a4, a5] [] := ke_callS (m' := m_X5_isIn) (as := [vI n0, vI n1, vI n2]) (n := 3) (rest := []) dX5_turn_15 rfl (by decide) rfl rfl rfl rfl rfl (Nat.le_of_ble_eq_true rfl) (Nat.le_of_ble_eq_true rfl) rfl
theorem eX5_turn_18 : ev X m_X5_turn 18 [a0, a1, a2, a3, a4, a5] (vI x :: st) mem = if x = 0 then ev X m_X5_turn 21 [a0, a1, a2, a3, a4, a5] st mem else ev X m_X5_turn 26 [a0, a1, a2, a3, a4, a5] st mem := ke_if_ne dX5_turn_18 rfl
theorem eX5_turn_21 : ev X m_X5_turn 21 [a0, a1, a2, a3, a4, a5] st mem = ev X m_X5_turn 23 [a0, a1, a2, a3, a4, a5] (vI (-2) :: st) mem := ke_bipush (by decide) dX5_turn_21
theorem eX5_turn_23 : ev X m_X5_turn 23 [a0, a1, a2, a3, a4, a5] st mem = ev X m_X5_turn 33 [a0, a1, a2, a3, a4, a5] st mem := ke_goto dX5_turn_23 rfl
theorem eX5_turn_26 : ev X m_X5_turn 26 [a0, a1, a2, vI x, a4, a5] st mem = ev X m_X5_turn 27 [a0, a1, a2, vI x, a4, a5] (vI x :: st) mem := ke_iload_n rfl dX5_turn_26
theorem eX5_turn_27 : ev X m_X5_turn 27 [a0, a1, a2, a3, a4, a5] st mem = ev X m_X5_turn 28 [a0, a1, a2, a3, a4, a5] (vI 0 :: st) mem := ke_iconst (by decide) dX5_turn_27
theorem eX5_turn_28 : ev X m_X5_turn 28 [a0, a1, a2, a3, a4, a5] st mem = ev X m_X5_turn 30 [a0, a1, a2, a3, a4, a5] (vI 9 :: st) mem := ke_bipush (by decide) dX5_turn_28
theorem eX5_turn_30 : ev X m_X5_turn 30 [a0, a1, a2, a3, a4, a5] (vI n2 :: vI n1 :: vI n0 :: []) mem = evc X (ev X m_X5_bound 0 [vI n0, vI n1, vI n2] [] mem) m_X5_turn 33 [a0, a1, a2, a3, a4, a5] [] := ke_callS (m' := m_X5_bound) (as := [vI n0, vI n1, vI n2]) (n := 3) (rest := []) dX5_turn_30 rfl (by decide) rfl rfl rfl rfl rfl (Nat.le_of_ble_eq_true rfl) (Nat.le_of_ble_eq_true rfl) rfl
theorem eX5_turn_33 : ev X m_X5_turn 33 [a0, a1, a2, a3, a4, a5] (vI x :: st) mem = ev X m_X5_turn 35 [a0, a1, a2, a3, vI x, a5] st mem := ke_istore (Nat.le_of_ble_eq_true rfl) rfl dX5_turn_33
theorem eX5_turn_35 : ev X m_X5_turn 35 [a0, a1, a2, a3, vI x, a5] st mem = ev X m_X5_turn 37 [a0, a1, a2, a3, vI x, a5] (vI x :: st) mem := ke_iload rfl dX5_turn_35
theorem eX5_turn_37 : ev X m_X5_turn 37 [a0, a1, a2, a3, a4, a5] (vI x :: st) mem = if x = 0 then ev X m_X5_turn 47 [a0, a1, a2, a3, a4, a5] st mem else ev X m_X5_turn 40 [a0, a1, a2, a3, a4, a5] st mem := ke_if_eq dX5_turn_37 rfl
theorem eX5_turn_40 : ev X m_X5_turn 40 [vR r, a1, a2, a3, a4, a5] st mem = ev X m_X5_turn 41 [vR r, a1, a2, a3, a4, a5] (vR r :: st) mem := ke_aload_n rfl dX5_turn_40
theorem eX5_turn_41 : ev X m_X5_turn 41 [a0, a1, a2, a3, vI x, a5] st mem = ev X m_X5_turn 43 [a0, a1, a2, a3, vI x, a5] (vI x :: st) mem := ke_iload rfl dX5_turn_41
theorem eX5_turn_43 : ev X m_X5_turn 43 [a0, a1, a2, a3, a4, a5] (vI n0 :: vR r :: []) mem = evc X (gR mem r 5 (ev X m_X5_no 0 [vR r, vI n0] [] mem)) m_X5_turn 46 [a0, a1, a2, a3, a4, a5] [] := ke_callV (m' := m_X5_no) (as := [vI n0]) (n := 1) (rest := []) dX5_turn_43 rfl rfl rfl rfl rfl rfl (Nat.le_of_ble_eq_true rfl) (Nat.le_of_ble_eq_true rfl) (Nat.le_of_ble_eq_true rfl) rfl
theorem eX5_turn_46 : ev X m_X5_turn 46 [a0, a1, a2, a3, a4, a5] [vI x] mem = some (some (vI x), mem) := ke_ireturn dX5_turn_46 rfl
theorem eX5_turn_47 : ev X m_X5_turn 47 [a0, a1, a2, a3, a4, a5] st mem = ev X m_X5_turn 49 [a0, a1, a2, a3, a4, a5] (vI 10 :: st) mem := ke_bipush (by decide) dX5_turn_47
theorem eX5_turn_49 : ev X m_X5_turn 49 [vR r, a1, a2, a3, a4, a5] st mem = ev X m_X5_turn 50 [vR r, a1, a2, a3, a4, a5] (vR r :: st) mem := ke_aload_n rfl dX5_turn_49
theorem eX5_turn_50 : ev X m_X5_turn 50 [a0, a1, a2, a3, a4, a5] (vR r :: st) mem = evb X (fget mem r 5 1) m_X5_turn 53 [a0, a1, a2, a3, a4, a5] st mem := ke_getf rfl dX5_turn_50
theorem eX5_turn_53 : ev X m_X5_turn 53 [a0, vI x, a2, a3, a4, a5] st mem = ev X m_X5_turn 54 [a0, vI x, a2, a3, a4, a5] (vI x :: st) mem := ke_iload_n rfl dX5_turn_53
theorem eX5_turn_54 : ev X m_X5_turn 54 [a0, a1, a2, a3, a4, a5] (vI x :: vR r :: st) mem = evb X (aget mem r x) m_X5_turn 55 [a0, a1, a2, a3, a4, a5] st mem := ke_iaload dX5_turn_54
theorem eX5_turn_55 : ev X m_X5_turn 55 [a0, a1, a2, a3, a4, a5] (vI y :: vI x :: st) mem = ev X m_X5_turn 56 [a0, a1, a2, a3, a4, a5] (vI (w32 (x * y)) :: st) mem := ke_imul dX5_turn_55
theorem eX5_turn_56 : ev X m_X5_turn 56 [vR r, a1, a2, a3, a4, a5] st mem = ev X m_X5_turn 57 [vR r, a1, a2, a3, a4, a5] (vR r :: st) mem := ke_aload_n rfl dX5_turn_56
theorem eX5_turn_57 : ev X m_X5_turn 57 [a0, a1, a2, a3, a4, a5] (vR r :: st) mem = evb X (fget mem r 5 2) m_X5_turn 60 [a0, a1, a2, a3, a4, a5] st mem := ke_getf rfl dX5_turn_57
theorem eX5_turn_60 : ev X m_X5_turn 60 [a0, vI x, a2, a3, a4, a5] st mem = ev X m_X5_turn 61 [a0, vI x, a2, a3, a4, a5] (vI x :: st) mem := ke_iload_n rfl dX5_turn_60
theorem eX5_turn_61 : ev X m_X5_turn 61 [a0, a1, a2, a3, a4, a5] (vI x :: vR r :: st) mem = evb X (aget mem r x) m_X5_turn 62 [a0, a1, a2, a3, a4, a5] st mem := ke_iaload dX5_turn_61
theorem eX5_turn_62 : ev X m_X5_turn 62 [a0, a1, a2, a3, a4, a5] (vI y :: vI x :: st) mem = ev X m_X5_turn 63 [a0, a1, a2, a3, a4, a5] (vI (w32 (x + y)) :: st) mem := ke_iadd dX5_turn_62
theorem eX5_turn_63 : ev X m_X5_turn 63 [a0, a1, a2, a3, a4, a5] (vI x :: st) mem = ev X m_X5_turn 65 [a0, a1, a2, a3, a4, vI x] st mem := ke_istore (Nat.le_of_ble_eq_true rfl) rfl dX5_turn_63
theorem eX5_turn_65 : ev X m_X5_turn 65 [vR r, a1, a2, a3, a4, a5] st mem = ev X m_X5_turn 66 [vR r, a1, a2, a3, a4, a5] (vR r :: st) mem := ke_aload_n rfl dX5_turn_65
theorem eX5_turn_66 : ev X m_X5_turn 66 [a0, a1, a2, a3, a4, a5] (vR r :: st) mem = evb X (fget mem r 5 1) m_X5_turn 69 [a0, a1, a2, a3, a4, a5] st mem := ke_getf rfl dX5_turn_66
theorem eX5_turn_69 : ev X m_X5_turn 69 [a0, vI x, a2, a3, a4, a5] st mem = ev X m_X5_turn 70 [a0, vI x, a2, a3, a4, a5] (vI x :: st) mem := ke_iload_n rfl dX5_turn_69
theorem eX5_turn_70 : ev X m_X5_turn 70 [a0, a1, vI x, a3, a4, a5] st mem = ev X m_X5_turn 71 [a0, a1, vI x, a3, a4, a5] (vI x :: st) mem := ke_iload_n rfl dX5_turn_70
theorem eX5_turn_71 : ev X m_X5_turn 71 [a0, a1, a2, a3, a4, a5] (vI y :: vI x :: vR r :: st) mem = evm X (aput mem r x y) m_X5_turn 72 [a0, a1, a2, a3, a4, a5] st := ke_iastore dX5_turn_71
theorem eX5_turn_72 : ev X m_X5_turn 72 [vR r, a1, a2, a3, a4, a5] st mem = ev X m_X5_turn 73 [vR r, a1, a2, a3, a4, a5] (vR r :: st) mem := ke_aload_n rfl dX5_turn_72
theorem eX5_turn_73 : ev X m_X5_turn 73 [a0, a1, a2, a3, a4, a5] (vR r :: st) mem = evb X (fget mem r 5 2) m_X5_turn 76 [a0, a1, a2, a3, a4, a5] st mem := ke_getf rfl dX5_turn_73
theorem eX5_turn_76 : ev X m_X5_turn 76 [a0, vI x, a2, a3, a4, a5] st mem = ev X m_X5_turn 77 [a0, vI x, a2, a3, a4, a5] (vI x :: st) mem := ke_iload_n rfl dX5_turn_76
theorem eX5_turn_77 : ev X m_X5_turn 77 [a0, a1, a2, vI x, a4, a5] st mem = ev X m_X5_turn 78 [a0, a1, a2, vI x, a4, a5] (vI x :: st) mem := ke_iload_n rfl dX5_turn_77
theorem eX5_turn_78 : ev X m_X5_turn 78 [a0, a1, a2, a3, a4, a5] (vI y :: vI x :: vR r :: st) mem = evm X (aput mem r x y) m_X5_turn 79 [a0, a1, a2, a3, a4, a5] st := ke_iastore dX5_turn_78
theorem eX5_turn_79 : ev X m_X5_turn 79 [a0, a1, a2, a3, a4, vI x] st mem = ev X m_X5_turn 81 [a0, a1, a2, a3, a4, vI x] (vI x :: st) mem := ke_iload rfl dX5_turn_79
theorem eX5_turn_81 : ev X m_X5_turn 81 [a0, a1, a2, a3, a4, a5] [vI x] mem = some (some (vI x), mem) := ke_ireturn dX5_turn_81 rfl
theorem eX5_days_0 : ev X m_X5_days 0 [a0, vI x, a2] st mem = ev X m_X5_days 1 [a0, vI x, a2] (vI x :: st) mem := ke_iload_n rfl dX5_days_0
theorem eX5_days_1 : ev X m_X5_days 1 [a0, a1, a2] st mem = ev X m_X5_days 2 [a0, a1, a2] (vI 1 :: st) mem := ke_iconst (by decide) dX5_days_1
theorem eX5_days_2 : ev X m_X5_days 2 [a0, a1, a2] st mem = ev X m_X5_days 4 [a0, a1, a2] (vI 60 :: st) mem := ke_bipush (by decide) dX5_days_2
theorem eX5_days_4 : ev X m_X5_days 4 [a0, a1, a2] (vI n2 :: vI n1 :: vI n0 :: []) mem = evc X (ev X m_X5_bound 0 [vI n0, vI n1, vI n2] [] mem) m_X5_days 7 [a0, a1, a2] [] := ke_callS (m' := m_X5_bound) (as := [vI n0, vI n1, vI n2]) (n := 3) (rest := []) dX5_days_4 rfl (by decide) rfl rfl rfl rfl rfl (Nat.le_of_ble_eq_true rfl) (Nat.le_of_ble_eq_true rfl) rfl
theorem eX5_days_7 : ev X m_X5_days 7 [a0, a1, a2] (vI x :: st) mem = ev X m_X5_days 8 [a0, a1, vI x] st mem := ke_istore_n (Nat.le_of_ble_eq_true rfl) rfl dX5_days_7
theorem eX5_days_8 : ev X m_X5_days 8 [a0, a1, vI x] st mem = ev X m_X5_days 9 [a0, a1, vI x] (vI x :: st) mem := ke_iload_n rfl dX5_days_8
theorem eX5_days_9 : ev X m_X5_days 9 [a0, a1, a2] (vI x :: st) mem = if x = 0 then ev X m_X5_days 12 [a0, a1, a2] st mem else ev X m_X5_days 27 [a0, a1, a2] st mem := ke_if_ne dX5_days_9 rfl
theorem eX5_days_12 : ev X m_X5_days 12 [vR r, a1, a2] st mem = ev X m_X5_days 13 [vR r, a1, a2] (vR r :: st) mem := ke_aload_n rfl dX5_days_12
theorem eX5_days_13 : ev X m_X5_days 13 [a0, a1, a2] (vR r :: st) mem = evb X (fget mem r 5 13) m_X5_days 16 [a0, a1, a2] st mem := ke_getf rfl dX5_days_13
theorem eX5_days_16 : ev X m_X5_days 16 [a0, vI x, a2] st mem = ev X m_X5_days 17 [a0, vI x, a2] (vI x :: st) mem := ke_iload_n rfl dX5_days_16
theorem eX5_days_17 : ev X m_X5_days 17 [a0, a1, a2] (vI y :: vI x :: st) mem = ev X m_X5_days 18 [a0, a1, a2] (vI (w32 (x + y)) :: st) mem := ke_iadd dX5_days_17
theorem eX5_days_18 : ev X m_X5_days 18 [a0, a1, a2] st mem = ev X m_X5_days 21 [a0, a1, a2] (vI 999 :: st) mem := ke_sipush (by decide) dX5_days_18
theorem eX5_days_21 : ev X m_X5_days 21 [a0, a1, a2] (vI y :: vI x :: st) mem = if y < x then ev X m_X5_days 24 [a0, a1, a2] st mem else ev X m_X5_days 27 [a0, a1, a2] st mem := ke_icmp_le dX5_days_21 rfl
theorem eX5_days_24 : ev X m_X5_days 24 [a0, a1, a2] st mem = ev X m_X5_days 26 [a0, a1, a2] (vI (-6) :: st) mem := ke_bipush (by decide) dX5_days_24
theorem eX5_days_26 : ev X m_X5_days 26 [a0, a1, a2] (vI x :: st) mem = ev X m_X5_days 27 [a0, a1, vI x] st mem := ke_istore_n (Nat.le_of_ble_eq_true rfl) rfl dX5_days_26
theorem eX5_days_27 : ev X m_X5_days 27 [a0, a1, vI x] st mem = ev X m_X5_days 28 [a0, a1, vI x] (vI x :: st) mem := ke_iload_n rfl dX5_days_27
theorem eX5_days_28 : ev X m_X5_days 28 [a0, a1, a2] (vI x :: st) mem = if x = 0 then ev X m_X5_days 37 [a0, a1, a2] st mem else ev X m_X5_days 31 [a0, a1, a2] st mem := ke_if_eq dX5_days_28 rfl
theorem eX5_days_31 : ev X m_X5_days 31 [vR r, a1, a2] st mem = ev X m_X5_days 32 [vR r, a1, a2] (vR r :: st) mem := ke_aload_n rfl dX5_days_31
theorem eX5_days_32 : ev X m_X5_days 32 [a0, a1, vI x] st mem = ev X m_X5_days 33 [a0, a1, vI x] (vI x :: st) mem := ke_iload_n rfl dX5_days_32
theorem eX5_days_33 : ev X m_X5_days 33 [a0, a1, a2] (vI n0 :: vR r :: []) mem = evc X (gR mem r 5 (ev X m_X5_no 0 [vR r, vI n0] [] mem)) m_X5_days 36 [a0, a1, a2] [] := ke_callV (m' := m_X5_no) (as := [vI n0]) (n := 1) (rest := []) dX5_days_33 rfl rfl rfl rfl rfl rfl (Nat.le_of_ble_eq_true rfl) (Nat.le_of_ble_eq_true rfl) (Nat.le_of_ble_eq_true rfl) rfl
theorem eX5_days_36 : ev X m_X5_days 36 [a0, a1, a2] [vI x] mem = some (some (vI x), mem) := ke_ireturn dX5_days_36 rfl
theorem eX5_days_37 : ev X m_X5_days 37 [vR r, a1, a2] st mem = ev X m_X5_days 38 [vR r, a1, a2] (vR r :: st) mem := ke_aload_n rfl dX5_days_37
theorem eX5_days_38 : ev X m_X5_days 38 [a0, vI x, a2] st mem = ev X m_X5_days 39 [a0, vI x, a2] (vI x :: st) mem := ke_iload_n rfl dX5_days_38
theorem eX5_days_39 : ev X m_X5_days 39 [a0, a1, a2] (vI n0 :: vR r :: []) mem = evc X (gR mem r 5 (ev X m_X5_goes 0 [vR r, vI n0, vS] [] mem)) m_X5_days 42 [a0, a1, a2] [] := ke_callV (m' := m_X5_goes) (as := [vI n0]) (n := 1) (rest := []) dX5_days_39 rfl rfl rfl rfl rfl rfl (Nat.le_of_ble_eq_true rfl) (Nat.le_of_ble_eq_true rfl) (Nat.le_of_ble_eq_true rfl) rfl
theorem eX5_days_42 : ev X m_X5_days 42 [vR r, a1, a2] st mem = ev X m_X5_days 43 [vR r, a1, a2] (vR r :: st) mem := ke_aload_n rfl dX5_days_42
theorem eX5_days_43 : ev X m_X5_days 43 [a0, a1, a2] st mem = ev X m_X5_days 44 [a0, a1, a2] (vI 2 :: st) mem := ke_iconst (by decide) dX5_days_43
theorem eX5_days_44 : ev X m_X5_days 44 [a0, a1, a2] (vI n0 :: vR r :: []) mem = evc X (gR mem r 5 (ev X m_X5_thoseIn 0 [vR r, vI n0, vS, vS] [] mem)) m_X5_days 47 [a0, a1, a2] [] := ke_callV (m' := m_X5_thoseIn) (as := [vI n0]) (n := 1) (rest := []) dX5_days_44 rfl rfl rfl rfl rfl rfl (Nat.le_of_ble_eq_true rfl) (Nat.le_of_ble_eq_true rfl) (Nat.le_of_ble_eq_true rfl) rfl
theorem eX5_days_47 : ev X m_X5_days 47 [a0, a1, a2] (vI n0 :: []) mem = evc X (ev X m_X5_bits 0 [vI n0, vS, vS] [] mem) m_X5_days 50 [a0, a1, a2] [] := ke_callS (m' := m_X5_bits) (as := [vI n0]) (n := 1) (rest := []) dX5_days_47 rfl (by decide) rfl rfl rfl rfl rfl (Nat.le_of_ble_eq_true rfl) (Nat.le_of_ble_eq_true rfl) rfl
theorem eX5_days_50 : ev X m_X5_days 50 [a0, a1, a2] [vI x] mem = some (some (vI x), mem) := ke_ireturn dX5_days_50 rfl
theorem eX5_thoseIn_0 : ev X m_X5_thoseIn 0 [a0, a1, a2, a3] st mem = ev X m_X5_thoseIn 1 [a0, a1, a2, a3] (vI 0 :: st) mem := ke_iconst (by decide) dX5_thoseIn_0
theorem eX5_thoseIn_1 : ev X m_X5_thoseIn 1 [a0, a1, a2, a3] (vI x :: st) mem = ev X m_X5_thoseIn 2 [a0, a1, vI x, a3] st mem := ke_istore_n (Nat.le_of_ble_eq_true rfl) rfl dX5_thoseIn_1
theorem eX5_thoseIn_2 : ev X m_X5_thoseIn 2 [a0, a1, a2, a3] st mem = ev X m_X5_thoseIn 3 [a0, a1, a2, a3] (vI 0 :: st) mem := ke_iconst (by decide) dX5_thoseIn_2
theorem eX5_thoseIn_3 : ev X m_X5_thoseIn 3 [a0, a1, a2, a3] (vI x :: st) mem = ev X m_X5_thoseIn 4 [a0, a1, a2, vI x] st mem := ke_istore_n (Nat.le_of_ble_eq_true rfl) rfl dX5_thoseIn_3
theorem eX5_thoseIn_4 : ev X m_X5_thoseIn 4 [a0, a1, a2, vI x] st mem = ev X m_X5_thoseIn 5 [a0, a1, a2, vI x] (vI x :: st) mem := ke_iload_n rfl dX5_thoseIn_4
theorem eX5_thoseIn_5 : ev X m_X5_thoseIn 5 [vR r, a1, a2, a3] st mem = ev X m_X5_thoseIn 6 [vR r, a1, a2, a3] (vR r :: st) mem := ke_aload_n rfl dX5_thoseIn_5
theorem eX5_thoseIn_6 : ev X m_X5_thoseIn 6 [a0, a1, a2, a3] (vR r :: st) mem = evb X (fget mem r 5 12) m_X5_thoseIn 9 [a0, a1, a2, a3] st mem := ke_getf rfl dX5_thoseIn_6
theorem eX5_thoseIn_9 : ev X m_X5_thoseIn 9 [a0, a1, a2, a3] (vI y :: vI x :: st) mem = if x < y then ev X m_X5_thoseIn 12 [a0, a1, a2, a3] st mem else ev X m_X5_thoseIn 38 [a0, a1, a2, a3] st mem := ke_icmp_ge dX5_thoseIn_9 rfl
theorem eX5_thoseIn_12 : ev X m_X5_thoseIn 12 [a0, a1, vI x, a3] st mem = ev X m_X5_thoseIn 13 [a0, a1, vI x, a3] (vI x :: st) mem := ke_iload_n rfl dX5_thoseIn_12
theorem eX5_thoseIn_13 : ev X m_X5_thoseIn 13 [vR r, a1, a2, a3] st mem = ev X m_X5_thoseIn 14 [vR r, a1, a2, a3] (vR r :: st) mem := ke_aload_n rfl dX5_thoseIn_13
theorem eX5_thoseIn_14 : ev X m_X5_thoseIn 14 [a0, a1, a2, a3] (vR r :: st) mem = evb X (fget mem r 5 8) m_X5_thoseIn 17 [a0, a1, a2, a3] st mem := ke_getf rfl dX5_thoseIn_14
theorem eX5_thoseIn_17 : ev X m_X5_thoseIn 17 [a0, a1, a2, vI x] st mem = ev X m_X5_thoseIn 18 [a0, a1, a2, vI x] (vI x :: st) mem := ke_iload_n rfl dX5_thoseIn_17
theorem eX5_thoseIn_18 : ev X m_X5_thoseIn 18 [a0, a1, a2, a3] (vI x :: vR r :: st) mem = evb X (aget mem r x) m_X5_thoseIn 19 [a0, a1, a2, a3] st mem := ke_iaload dX5_thoseIn_18
theorem eX5_thoseIn_19 : ev X m_X5_thoseIn 19 [a0, vI x, a2, a3] st mem = ev X m_X5_thoseIn 20 [a0, vI x, a2, a3] (vI x :: st) mem := ke_iload_n rfl dX5_thoseIn_19
theorem eX5_thoseIn_20 : ev X m_X5_thoseIn 20 [a0, a1, a2, a3] (vI y :: vI x :: st) mem = if x = y then ev X m_X5_thoseIn 23 [a0, a1, a2, a3] st mem else ev X m_X5_thoseIn 29 [a0, a1, a2, a3] st mem := ke_icmp_ne dX5_thoseIn_20 rfl
theorem eX5_thoseIn_23 : ev X m_X5_thoseIn 23 [a0, a1, a2, a3] st mem = ev X m_X5_thoseIn 24 [a0, a1, a2, a3] (vI 1 :: st) mem := ke_iconst (by decide) dX5_thoseIn_23
theorem eX5_thoseIn_24 : ev X m_X5_thoseIn 24 [a0, a1, a2, vI x] st mem = ev X m_X5_thoseIn 25 [a0, a1, a2, vI x] (vI x :: st) mem := ke_iload_n rfl dX5_thoseIn_24
theorem eX5_thoseIn_25 : ev X m_X5_thoseIn 25 [a0, a1, a2, a3] (vI y :: vI x :: st) mem = ev X m_X5_thoseIn 26 [a0, a1, a2, a3] (vI (shl32 x y) :: st) mem := ke_ishl dX5_thoseIn_25
theorem eX5_thoseIn_26 : ev X m_X5_thoseIn 26 [a0, a1, a2, a3] st mem = ev X m_X5_thoseIn 30 [a0, a1, a2, a3] st mem := ke_goto dX5_thoseIn_26 rfl
theorem eX5_thoseIn_29 : ev X m_X5_thoseIn 29 [a0, a1, a2, a3] st mem = ev X m_X5_thoseIn 30 [a0, a1, a2, a3] (vI 0 :: st) mem := ke_iconst (by decide) dX5_thoseIn_29
theorem eX5_thoseIn_30 : ev X m_X5_thoseIn 30 [a0, a1, a2, a3] (vI y :: vI x :: st) mem = ev X m_X5_thoseIn 31 [a0, a1, a2, a3] (vI (or32 x y) :: st) mem := ke_ior dX5_thoseIn_30
theorem eX5_thoseIn_31 : ev X m_X5_thoseIn 31 [a0, a1, a2, a3] (vI x :: st) mem = ev X m_X5_thoseIn 32 [a0, a1, vI x, a3] st mem := ke_istore_n (Nat.le_of_ble_eq_true rfl) rfl dX5_thoseIn_31
theorem eX5_thoseIn_32 : ev X m_X5_thoseIn 32 [a0, a1, a2, vI x] st mem = ev X m_X5_thoseIn 35 [a0, a1, a2, vI (w32 (x + 1))] st mem := ke_iinc rfl (Nat.le_of_ble_eq_true rfl) rfl dX5_thoseIn_32
theorem eX5_thoseIn_35 : ev X m_X5_thoseIn 35 [a0, a1, a2, a3] st mem = ev X m_X5_thoseIn 4 [a0, a1, a2, a3] st mem := ke_goto dX5_thoseIn_35 rfl
theorem eX5_thoseIn_38 : ev X m_X5_thoseIn 38 [a0, a1, vI x, a3] st mem = ev X m_X5_thoseIn 39 [a0, a1, vI x, a3] (vI x :: st) mem := ke_iload_n rfl dX5_thoseIn_38
theorem eX5_thoseIn_39 : ev X m_X5_thoseIn 39 [a0, a1, a2, a3] [vI x] mem = some (some (vI x), mem) := ke_ireturn dX5_thoseIn_39 rfl
theorem eX5_bits_0 : ev X m_X5_bits 0 [a0, a1, a2] st mem = ev X m_X5_bits 1 [a0, a1, a2] (vI 0 :: st) mem := ke_iconst (by decide) dX5_bits_0
theorem eX5_bits_1 : ev X m_X5_bits 1 [a0, a1, a2] (vI x :: st) mem = ev X m_X5_bits 2 [a0, vI x, a2] st mem := ke_istore_n (Nat.le_of_ble_eq_true rfl) rfl dX5_bits_1
theorem eX5_bits_2 : ev X m_X5_bits 2 [a0, a1, a2] st mem = ev X m_X5_bits 3 [a0, a1, a2] (vI 0 :: st) mem := ke_iconst (by decide) dX5_bits_2
theorem eX5_bits_3 : ev X m_X5_bits 3 [a0, a1, a2] (vI x :: st) mem = ev X m_X5_bits 4 [a0, a1, vI x] st mem := ke_istore_n (Nat.le_of_ble_eq_true rfl) rfl dX5_bits_3
theorem eX5_bits_4 : ev X m_X5_bits 4 [a0, a1, vI x] st mem = ev X m_X5_bits 5 [a0, a1, vI x] (vI x :: st) mem := ke_iload_n rfl dX5_bits_4
theorem eX5_bits_5 : ev X m_X5_bits 5 [a0, a1, a2] st mem = ev X m_X5_bits 7 [a0, a1, a2] (vI 31 :: st) mem := ke_bipush (by decide) dX5_bits_5
theorem eX5_bits_7 : ev X m_X5_bits 7 [a0, a1, a2] (vI y :: vI x :: st) mem = if x < y then ev X m_X5_bits 10 [a0, a1, a2] st mem else ev X m_X5_bits 24 [a0, a1, a2] st mem := ke_icmp_ge dX5_bits_7 rfl
theorem eX5_bits_10 : ev X m_X5_bits 10 [a0, vI x, a2] st mem = ev X m_X5_bits 11 [a0, vI x, a2] (vI x :: st) mem := ke_iload_n rfl dX5_bits_10
theorem eX5_bits_11 : ev X m_X5_bits 11 [vI x, a1, a2] st mem = ev X m_X5_bits 12 [vI x, a1, a2] (vI x :: st) mem := ke_iload_n rfl dX5_bits_11
theorem eX5_bits_12 : ev X m_X5_bits 12 [a0, a1, vI x] st mem = ev X m_X5_bits 13 [a0, a1, vI x] (vI x :: st) mem := ke_iload_n rfl dX5_bits_12
theorem eX5_bits_13 : ev X m_X5_bits 13 [a0, a1, a2] (vI y :: vI x :: st) mem = ev X m_X5_bits 14 [a0, a1, a2] (vI (shr32 x y) :: st) mem := ke_ishr dX5_bits_13
theorem eX5_bits_14 : ev X m_X5_bits 14 [a0, a1, a2] st mem = ev X m_X5_bits 15 [a0, a1, a2] (vI 1 :: st) mem := ke_iconst (by decide) dX5_bits_14
theorem eX5_bits_15 : ev X m_X5_bits 15 [a0, a1, a2] (vI y :: vI x :: st) mem = ev X m_X5_bits 16 [a0, a1, a2] (vI (and32 x y) :: st) mem := ke_iand dX5_bits_15
theorem eX5_bits_16 : ev X m_X5_bits 16 [a0, a1, a2] (vI y :: vI x :: st) mem = ev X m_X5_bits 17 [a0, a1, a2] (vI (w32 (x + y)) :: st) mem := ke_iadd dX5_bits_16
theorem eX5_bits_17 : ev X m_X5_bits 17 [a0, a1, a2] (vI x :: st) mem = ev X m_X5_bits 18 [a0, vI x, a2] st mem := ke_istore_n (Nat.le_of_ble_eq_true rfl) rfl dX5_bits_17
theorem eX5_bits_18 : ev X m_X5_bits 18 [a0, a1, vI x] st mem = ev X m_X5_bits 21 [a0, a1, vI (w32 (x + 1))] st mem := ke_iinc rfl (Nat.le_of_ble_eq_true rfl) rfl dX5_bits_18
theorem eX5_bits_21 : ev X m_X5_bits 21 [a0, a1, a2] st mem = ev X m_X5_bits 4 [a0, a1, a2] st mem := ke_goto dX5_bits_21 rfl
theorem eX5_bits_24 : ev X m_X5_bits 24 [a0, vI x, a2] st mem = ev X m_X5_bits 25 [a0, vI x, a2] (vI x :: st) mem := ke_iload_n rfl dX5_bits_24
theorem eX5_bits_25 : ev X m_X5_bits 25 [a0, a1, a2] [vI x] mem = some (some (vI x), mem) := ke_ireturn dX5_bits_25 rfl
theorem eX5_parcelThen_0 : ev X m_X5_parcelThen 0 [vR r, a1, a2, a3, a4, a5] st mem = ev X m_X5_parcelThen 1 [vR r, a1, a2, a3, a4, a5] (vR r :: st) mem := ke_aload_n rfl dX5_parcelThen_0
theorem eX5_parcelThen_1 : ev X m_X5_parcelThen 1 [a0, vI x, a2, a3, a4, a5] st mem = ev X m_X5_parcelThen 2 [a0, vI x, a2, a3, a4, a5] (vI x :: st) mem := ke_iload_n rfl dX5_parcelThen_1
theorem eX5_parcelThen_2 : ev X m_X5_parcelThen 2 [a0, a1, a2, a3, a4, a5] (vI n0 :: vR r :: []) mem = evc X (gR mem r 5 (ev X m_X5_isParcel 0 [vR r, vI n0] [] mem)) m_X5_parcelThen 5 [a0, a1, a2, a3, a4, a5] [] := ke_callV (m' := m_X5_isParcel) (as := [vI n0]) (n := 1) (rest := []) dX5_parcelThen_2 rfl rfl rfl rfl rfl rfl (Nat.le_of_ble_eq_true rfl) (Nat.le_of_ble_eq_true rfl) (Nat.le_of_ble_eq_true rfl) rfl
theorem eX5_parcelThen_5 : ev X m_X5_parcelThen 5 [a0, a1, a2, a3, a4, a5] (vI x :: st) mem = if x = 0 then ev X m_X5_parcelThen 8 [a0, a1, a2, a3, a4, a5] st mem else ev X m_X5_parcelThen 12 [a0, a1, a2, a3, a4, a5] st mem := ke_if_ne dX5_parcelThen_5 rfl
theorem eX5_parcelThen_8 : ev X m_X5_parcelThen 8 [a0, a1, a2, a3, a4, a5] st mem = ev X m_X5_parcelThen 9 [a0, a1, a2, a3, a4, a5] (vI (-1) :: st) mem := ke_iconst (by decide) dX5_parcelThen_8
theorem eX5_parcelThen_9 : ev X m_X5_parcelThen 9 [a0, a1, a2, a3, a4, a5] st mem = ev X m_X5_parcelThen 16 [a0, a1, a2, a3, a4, a5] st mem := ke_goto dX5_parcelThen_9 rfl
theorem eX5_parcelThen_12 : ev X m_X5_parcelThen 12 [a0, a1, vI x, a3, a4, a5] st mem = ev X m_X5_parcelThen 13 [a0, a1, vI x, a3, a4, a5] (vI x :: st) mem := ke_iload_n rfl dX5_parcelThen_12
theorem eX5_parcelThen_13 : ev X m_X5_parcelThen 13 [a0, a1, a2, a3, a4, a5] (vI n0 :: []) mem = evc X (ev X m_X5_notDays 0 [vI n0] [] mem) m_X5_parcelThen 16 [a0, a1, a2, a3, a4, a5] [] := ke_callS (m' := m_X5_notDays) (as := [vI n0]) (n := 1) (rest := []) dX5_parcelThen_13 rfl (by decide) rfl rfl rfl rfl rfl (Nat.le_of_ble_eq_true rfl) (Nat.le_of_ble_eq_true rfl) rfl
theorem eX5_parcelThen_16 : ev X m_X5_parcelThen 16 [a0, a1, a2, a3, a4, a5] (vI x :: st) mem = ev X m_X5_parcelThen 18 [a0, a1, a2, a3, vI x, a5] st mem := ke_istore (Nat.le_of_ble_eq_true rfl) rfl dX5_parcelThen_16
theorem eX5_parcelThen_18 : ev X m_X5_parcelThen 18 [a0, a1, a2, a3, vI x, a5] st mem = ev X m_X5_parcelThen 20 [a0, a1, a2, a3, vI x, a5] (vI x :: st) mem := ke_iload rfl dX5_parcelThen_18
theorem eX5_parcelThen_20 : ev X m_X5_parcelThen 20 [a0, a1, a2, a3, a4, a5] (vI x :: st) mem = if x = 0 then ev X m_X5_parcelThen 23 [a0, a1, a2, a3, a4, a5] st mem else ev X m_X5_parcelThen 36 [a0, a1, a2, a3, a4, a5] st mem := ke_if_ne dX5_parcelThen_20 rfl
theorem eX5_parcelThen_23 : ev X m_X5_parcelThen 23 [a0, a1, a2, vI x, a4, a5] st mem = ev X m_X5_parcelThen 24 [a0, a1, a2, vI x, a4, a5] (vI x :: st) mem := ke_iload_n rfl dX5_parcelThen_23
theorem eX5_parcelThen_24 : ev X m_X5_parcelThen 24 [a0, a1, a2, a3, a4, a5] st mem = ev X m_X5_parcelThen 25 [a0, a1, a2, a3, a4, a5] (vI 0 :: st) mem := ke_iconst (by decide) dX5_parcelThen_24
theorem eX5_parcelThen_25 : ev X m_X5_parcelThen 25 [a0, a1, a2, a3, a4, a5] st mem = ev X m_X5_parcelThen 26 [a0, a1, a2, a3, a4, a5] (vI 1 :: st) mem := ke_iconst (by decide) dX5_parcelThen_25
theorem eX5_parcelThen_26 : ev X m_X5_parcelThen 26 [a0, a1, a2, a3, a4, a5] (vI n2 :: vI n1 :: vI n0 :: []) mem = evc X (ev X m_X5_isIn 0 [vI n0, vI n1, vI n2] [] mem) m_X5_parcelThen 29 [a0, a1, a2, a3, a4, a5] [] := ke_callS (m' := m_X5_isIn) (as := [vI n0, vI n1, vI n2]) (n := 3) (rest := []) dX5_parcelThen_26 rfl (by decide) rfl rfl rfl rfl rfl (Nat.le_of_ble_eq_true rfl) (Nat.le_of_ble_eq_true rfl) rfl
theorem eX5_parcelThen_29 : ev X m_X5_parcelThen 29 [a0, a1, a2, a3, a4, a5] (vI x :: st) mem = if x = 0 then ev X m_X5_parcelThen 32 [a0, a1, a2, a3, a4, a5] st mem else ev X m_X5_parcelThen 36 [a0, a1, a2, a3, a4, a5] st mem := ke_if_ne dX5_parcelThen_29 rfl
theorem eX5_parcelThen_32 : ev X m_X5_parcelThen 32 [a0, a1, a2, a3, a4, a5] st mem = ev X m_X5_parcelThen 34 [a0, a1, a2, a3, a4, a5] (vI (-2) :: st) mem := ke_bipush (by decide) dX5_parcelThen_32
theorem eX5_parcelThen_34 : ev X m_X5_parcelThen 34 [a0, a1, a2, a3, a4, a5] (vI x :: st) mem = ev X m_X5_parcelThen 36 [a0, a1, a2, a3, vI x, a5] st mem := ke_istore (Nat.le_of_ble_eq_true rfl) rfl dX5_parcelThen_34
theorem eX5_parcelThen_36 : ev X m_X5_parcelThen 36 [a0, a1, a2, a3, vI x, a5] st mem = ev X m_X5_parcelThen 38 [a0, a1, a2, a3, vI x, a5] (vI x :: st) mem := ke_iload rfl dX5_parcelThen_36
theorem eX5_parcelThen_38 : ev X m_X5_parcelThen 38 [a0, a1, a2, a3, a4, a5] (vI x :: st) mem = if x = 0 then ev X m_X5_parcelThen 48 [a0, a1, a2, a3, a4, a5] st mem else ev X m_X5_parcelThen 41 [a0, a1, a2, a3, a4, a5] st mem := ke_if_eq dX5_parcelThen_38 rfl
theorem eX5_parcelThen_41 : ev X m_X5_parcelThen 41 [vR r, a1, a2, a3, a4, a5] st mem = ev X m_X5_parcelThen 42 [vR r, a1, a2, a3, a4, a5] (vR r :: st) mem := ke_aload_n rfl dX5_parcelThen_41
theorem eX5_parcelThen_42 : ev X m_X5_parcelThen 42 [a0, a1, a2, a3, vI x, a5] st mem = ev X m_X5_parcelThen 44 [a0, a1, a2, a3, vI x, a5] (vI x :: st) mem := ke_iload rfl dX5_parcelThen_42
theorem eX5_parcelThen_44 : ev X m_X5_parcelThen 44 [a0, a1, a2, a3, a4, a5] (vI n0 :: vR r :: []) mem = evc X (gR mem r 5 (ev X m_X5_no 0 [vR r, vI n0] [] mem)) m_X5_parcelThen 47 [a0, a1, a2, a3, a4, a5] [] := ke_callV (m' := m_X5_no) (as := [vI n0]) (n := 1) (rest := []) dX5_parcelThen_44 rfl rfl rfl rfl rfl rfl (Nat.le_of_ble_eq_true rfl) (Nat.le_of_ble_eq_true rfl) (Nat.le_of_ble_eq_true rfl) rfl
theorem eX5_parcelThen_47 : ev X m_X5_parcelThen 47 [a0, a1, a2, a3, a4, a5] [vI x] mem = some (some (vI x), mem) := ke_ireturn dX5_parcelThen_47 rfl
theorem eX5_parcelThen_48 : ev X m_X5_parcelThen 48 [vR r, a1, a2, a3, a4, a5] st mem = ev X m_X5_parcelThen 49 [vR r, a1, a2, a3, a4, a5] (vR r :: st) mem := ke_aload_n rfl dX5_parcelThen_48
theorem eX5_parcelThen_49 : ev X m_X5_parcelThen 49 [a0, a1, a2, a3, a4, a5] (vR r :: []) mem = evc X (gR mem r 5 (ev X m_X5_thinks 0 [vR r] [] mem)) m_X5_parcelThen 52 [a0, a1, a2, a3, a4, a5] [] := ke_callV (m' := m_X5_thinks) (as := []) (n := 0) (rest := []) dX5_parcelThen_49 rfl rfl rfl rfl rfl rfl (Nat.le_of_ble_eq_true rfl) (Nat.le_of_ble_eq_true rfl) (Nat.le_of_ble_eq_true rfl) rfl
theorem eX5_parcelThen_52 : ev X m_X5_parcelThen 52 [vR r, a1, a2, a3, a4, a5] st mem = ev X m_X5_parcelThen 53 [vR r, a1, a2, a3, a4, a5] (vR r :: st) mem := ke_aload_n rfl dX5_parcelThen_52
theorem eX5_parcelThen_53 : ev X m_X5_parcelThen 53 [a0, a1, vI x, a3, a4, a5] st mem = ev X m_X5_parcelThen 54 [a0, a1, vI x, a3, a4, a5] (vI x :: st) mem := ke_iload_n rfl dX5_parcelThen_53
theorem eX5_parcelThen_54 : ev X m_X5_parcelThen 54 [a0, a1, a2, a3, a4, a5] (vI n0 :: vR r :: []) mem = evc X (gR mem r 5 (ev X m_X5_goes 0 [vR r, vI n0, vS] [] mem)) m_X5_parcelThen 57 [a0, a1, a2, a3, a4, a5] [] := ke_callV (m' := m_X5_goes) (as := [vI n0]) (n := 1) (rest := []) dX5_parcelThen_54 rfl rfl rfl rfl rfl rfl (Nat.le_of_ble_eq_true rfl) (Nat.le_of_ble_eq_true rfl) (Nat.le_of_ble_eq_true rfl) rfl
theorem eX5_parcelThen_57 : ev X m_X5_parcelThen 57 [a0, a1, a2, vI x, a4, a5] st mem = ev X m_X5_parcelThen 58 [a0, a1, a2, vI x, a4, a5] (vI x :: st) mem := ke_iload_n rfl dX5_parcelThen_57
theorem eX5_parcelThen_58 : ev X m_X5_parcelThen 58 [a0, a1, a2, a3, a4, a5] (vI x :: st) mem = if x = 0 then ev X m_X5_parcelThen 61 [a0, a1, a2, a3, a4, a5] st mem else ev X m_X5_parcelThen 70 [a0, a1, a2, a3, a4, a5] st mem := ke_if_ne dX5_parcelThen_58 rfl
theorem eX5_parcelThen_61 : ev X m_X5_parcelThen 61 [vR r, a1, a2, a3, a4, a5] st mem = ev X m_X5_parcelThen 62 [vR r, a1, a2, a3, a4, a5] (vR r :: st) mem := ke_aload_n rfl dX5_parcelThen_61
theorem eX5_parcelThen_62 : ev X m_X5_parcelThen 62 [a0, a1, a2, a3, a4, a5] (vR r :: st) mem = evb X (fget mem r 5 8) m_X5_parcelThen 65 [a0, a1, a2, a3, a4, a5] st mem := ke_getf rfl dX5_parcelThen_62
theorem eX5_parcelThen_65 : ev X m_X5_parcelThen 65 [a0, vI x, a2, a3, a4, a5] st mem = ev X m_X5_parcelThen 66 [a0, vI x, a2, a3, a4, a5] (vI x :: st) mem := ke_iload_n rfl dX5_parcelThen_65
theorem eX5_parcelThen_66 : ev X m_X5_parcelThen 66 [a0, a1, a2, a3, a4, a5] (vI x :: vR r :: st) mem = evb X (aget mem r x) m_X5_parcelThen 67 [a0, a1, a2, a3, a4, a5] st mem := ke_iaload dX5_parcelThen_66
theorem eX5_parcelThen_67 : ev X m_X5_parcelThen 67 [a0, a1, a2, a3, a4, a5] st mem = ev X m_X5_parcelThen 76 [a0, a1, a2, a3, a4, a5] st mem := ke_goto dX5_parcelThen_67 rfl
theorem eX5_parcelThen_70 : ev X m_X5_parcelThen 70 [vR r, a1, a2, a3, a4, a5] st mem = ev X m_X5_parcelThen 71 [vR r, a1, a2, a3, a4, a5] (vR r :: st) mem := ke_aload_n rfl dX5_parcelThen_70
theorem eX5_parcelThen_71 : ev X m_X5_parcelThen 71 [a0, a1, a2, a3, a4, a5] (vR r :: st) mem = evb X (fget mem r 5 10) m_X5_parcelThen 74 [a0, a1, a2, a3, a4, a5] st mem := ke_getf rfl dX5_parcelThen_71
theorem eX5_parcelThen_74 : ev X m_X5_parcelThen 74 [a0, vI x, a2, a3, a4, a5] st mem = ev X m_X5_parcelThen 75 [a0, vI x, a2, a3, a4, a5] (vI x :: st) mem := ke_iload_n rfl dX5_parcelThen_74
theorem eX5_parcelThen_75 : ev X m_X5_parcelThen 75 [a0, a1, a2, a3, a4, a5] (vI x :: vR r :: st) mem = evb X (aget mem r x) m_X5_parcelThen 76 [a0, a1, a2, a3, a4, a5] st mem := ke_iaload dX5_parcelThen_75
theorem eX5_parcelThen_76 : ev X m_X5_parcelThen 76 [a0, a1, a2, a3, a4, a5] (vI x :: st) mem = ev X m_X5_parcelThen 78 [a0, a1, a2, a3, a4, vI x] st mem := ke_istore (Nat.le_of_ble_eq_true rfl) rfl dX5_parcelThen_76
theorem eX5_parcelThen_78 : ev X m_X5_parcelThen 78 [vR r, a1, a2, a3, a4, a5] st mem = ev X m_X5_parcelThen 79 [vR r, a1, a2, a3, a4, a5] (vR r :: st) mem := ke_aload_n rfl dX5_parcelThen_78
theorem eX5_parcelThen_79 : ev X m_X5_parcelThen 79 [a0, a1, a2, a3, a4, a5] (vR r :: []) mem = evc X (gR mem r 5 (ev X m_X5_forgets 0 [vR r] [] mem)) m_X5_parcelThen 82 [a0, a1, a2, a3, a4, a5] [] := ke_callV (m' := m_X5_forgets) (as := []) (n := 0) (rest := []) dX5_parcelThen_79 rfl rfl rfl rfl rfl rfl (Nat.le_of_ble_eq_true rfl) (Nat.le_of_ble_eq_true rfl) (Nat.le_of_ble_eq_true rfl) rfl
theorem eX5_parcelThen_82 : ev X m_X5_parcelThen 82 [a0, a1, a2, a3, a4, vI x] st mem = ev X m_X5_parcelThen 84 [a0, a1, a2, a3, a4, vI x] (vI x :: st) mem := ke_iload rfl dX5_parcelThen_82
theorem eX5_parcelThen_84 : ev X m_X5_parcelThen 84 [a0, a1, a2, a3, a4, a5] [vI x] mem = some (some (vI x), mem) := ke_ireturn dX5_parcelThen_84 rfl
theorem eX5_notDays_0 : ev X m_X5_notDays 0 [vI x] st mem = ev X m_X5_notDays 1 [vI x] (vI x :: st) mem := ke_iload_n rfl dX5_notDays_0
theorem eX5_notDays_1 : ev X m_X5_notDays 1 [a0] st mem = ev X m_X5_notDays 2 [a0] (vI 0 :: st) mem := ke_iconst (by decide) dX5_notDays_1
theorem eX5_notDays_2 : ev X m_X5_notDays 2 [a0] st mem = ev X m_X5_notDays 4 [a0] (vI 99 :: st) mem := ke_bipush (by decide) dX5_notDays_2
theorem eX5_notDays_4 : ev X m_X5_notDays 4 [a0] (vI n2 :: vI n1 :: vI n0 :: []) mem = evc X (ev X m_X5_bound 0 [vI n0, vI n1, vI n2] [] mem) m_X5_notDays 7 [a0] [] := ke_callS (m' := m_X5_bound) (as := [vI n0, vI n1, vI n2]) (n := 3) (rest := []) dX5_notDays_4 rfl (by decide) rfl rfl rfl rfl rfl (Nat.le_of_ble_eq_true rfl) (Nat.le_of_ble_eq_true rfl) rfl
theorem eX5_notDays_7 : ev X m_X5_notDays 7 [a0] [vI x] mem = some (some (vI x), mem) := ke_ireturn dX5_notDays_7 rfl
theorem eX5_thinks_0 : ev X m_X5_thinks 0 [vR r] st mem = ev X m_X5_thinks 1 [vR r] (vR r :: st) mem := ke_aload_n rfl dX5_thinks_0
theorem eX5_thinks_1 : ev X m_X5_thinks 1 [a0] st mem = ev X m_X5_thinks 2 [a0] (vI 2 :: st) mem := ke_iconst (by decide) dX5_thinks_1
theorem eX5_thinks_2 : ev X m_X5_thinks 2 [a0] st mem = ev X m_X5_thinks 3 [a0] (vI 1 :: st) mem := ke_iconst (by decide) dX5_thinks_2
theorem eX5_thinks_3 : ev X m_X5_thinks 3 [a0] (vI n1 :: vI n0 :: vR r :: []) mem = evc X (gR mem r 5 (ev X m_X5_passesAll 0 [vR r, vI n0, vI n1] [] mem)) m_X5_thinks 6 [a0] [] := ke_callV (m' := m_X5_passesAll) (as := [vI n0, vI n1]) (n := 2) (rest := []) dX5_thinks_3 rfl rfl rfl rfl rfl rfl (Nat.le_of_ble_eq_true rfl) (Nat.le_of_ble_eq_true rfl) (Nat.le_of_ble_eq_true rfl) rfl
theorem eX5_thinks_6 : ev X m_X5_thinks 6 [a0] [] mem = some (none, mem) := ke_return dX5_thinks_6 rfl
theorem eX5_forgets_0 : ev X m_X5_forgets 0 [vR r] st mem = ev X m_X5_forgets 1 [vR r] (vR r :: st) mem := ke_aload_n rfl dX5_forgets_0
theorem eX5_forgets_1 : ev X m_X5_forgets 1 [a0] st mem = ev X m_X5_forgets 2 [a0] (vI 2 :: st) mem := ke_iconst (by decide) dX5_forgets_1
theorem eX5_forgets_2 : ev X m_X5_forgets 2 [a0] st mem = ev X m_X5_forgets 3 [a0] (vI 0 :: st) mem := ke_iconst (by decide) dX5_forgets_2
theorem eX5_forgets_3 : ev X m_X5_forgets 3 [a0] (vI n1 :: vI n0 :: vR r :: []) mem = evc X (gR mem r 5 (ev X m_X5_passesAll 0 [vR r, vI n0, vI n1] [] mem)) m_X5_forgets 6 [a0] [] := ke_callV (m' := m_X5_passesAll) (as := [vI n0, vI n1]) (n := 2) (rest := []) dX5_forgets_3 rfl rfl rfl rfl rfl rfl (Nat.le_of_ble_eq_true rfl) (Nat.le_of_ble_eq_true rfl) (Nat.le_of_ble_eq_true rfl) rfl
theorem eX5_forgets_6 : ev X m_X5_forgets 6 [a0] [] mem = some (none, mem) := ke_return dX5_forgets_6 rfl
theorem eX5_hateThen_0 : ev X m_X5_hateThen 0 [vR r, a1, a2, a3, a4, a5] st mem = ev X m_X5_hateThen 1 [vR r, a1, a2, a3, a4, a5] (vR r :: st) mem := ke_aload_n rfl dX5_hateThen_0
theorem eX5_hateThen_1 : ev X m_X5_hateThen 1 [a0, vI x, a2, a3, a4, a5] st mem = ev X m_X5_hateThen 2 [a0, vI x, a2, a3, a4, a5] (vI x :: st) mem := ke_iload_n rfl dX5_hateThen_1
theorem eX5_hateThen_2 : ev X m_X5_hateThen 2 [a0, a1, vI x, a3, a4, a5] st mem = ev X m_X5_hateThen 3 [a0, a1, vI x, a3, a4, a5] (vI x :: st) mem := ke_iload_n rfl dX5_hateThen_2
theorem eX5_hateThen_3 : ev X m_X5_hateThen 3 [a0, a1, a2, a3, a4, a5] (vI n1 :: vI n0 :: vR r :: []) mem = evc X (gR mem r 5 (ev X m_X5_areTwo 0 [vR r, vI n0, vI n1] [] mem)) m_X5_hateThen 6 [a0, a1, a2, a3, a4, a5] [] := ke_callV (m' := m_X5_areTwo) (as := [vI n0, vI n1]) (n := 2) (rest := []) dX5_hateThen_3 rfl rfl rfl rfl rfl rfl (Nat.le_of_ble_eq_true rfl) (Nat.le_of_ble_eq_true rfl) (Nat.le_of_ble_eq_true rfl) rfl
theorem eX5_hateThen_6 : ev X m_X5_hateThen 6 [a0, a1, a2, a3, a4, a5] (vI x :: st) mem = if x = 0 then ev X m_X5_hateThen 9 [a0, a1, a2, a3, a4, a5] st mem else ev X m_X5_hateThen 13 [a0, a1, a2, a3, a4, a5] st mem := ke_if_ne dX5_hateThen_6 rfl
theorem eX5_hateThen_9 : ev X m_X5_hateThen 9 [a0, a1, a2, a3, a4, a5] st mem = ev X m_X5_hateThen 10 [a0, a1, a2, a3, a4, a5] (vI (-1) :: st) mem := ke_iconst (by decide) dX5_hateThen_9
theorem eX5_hateThen_10 : ev X m_X5_hateThen 10 [a0, a1, a2, a3, a4, a5] st mem = ev X m_X5_hateThen 17 [a0, a1, a2, a3, a4, a5] st mem := ke_goto dX5_hateThen_10 rfl
theorem eX5_hateThen_13 : ev X m_X5_hateThen 13 [a0, a1, a2, vI x, a4, a5] st mem = ev X m_X5_hateThen 14 [a0, a1, a2, vI x, a4, a5] (vI x :: st) mem := ke_iload_n rfl dX5_hateThen_13
theorem eX5_hateThen_14 : ev X m_X5_hateThen 14 [a0, a1, a2, a3, a4, a5] (vI n0 :: []) mem = evc X (ev X m_X5_notDays 0 [vI n0] [] mem) m_X5_hateThen 17 [a0, a1, a2, a3, a4, a5] [] := ke_callS (m' := m_X5_notDays) (as := [vI n0]) (n := 1) (rest := []) dX5_hateThen_14 rfl (by decide) rfl rfl rfl rfl rfl (Nat.le_of_ble_eq_true rfl) (Nat.le_of_ble_eq_true rfl) rfl
theorem eX5_hateThen_17 : ev X m_X5_hateThen 17 [a0, a1, a2, a3, a4, a5] (vI x :: st) mem = ev X m_X5_hateThen 19 [a0, a1, a2, a3, vI x, a5] st mem := ke_istore (Nat.le_of_ble_eq_true rfl) rfl dX5_hateThen_17
theorem eX5_hateThen_19 : ev X m_X5_hateThen 19 [a0, a1, a2, a3, vI x, a5] st mem = ev X m_X5_hateThen 21 [a0, a1, a2, a3, vI x, a5] (vI x :: st) mem := ke_iload rfl dX5_hateThen_19
theorem eX5_hateThen_21 : ev X m_X5_hateThen 21 [a0, a1, a2, a3, a4, a5] (vI x :: st) mem = if x = 0 then ev X m_X5_hateThen 31 [a0, a1, a2, a3, a4, a5] st mem else ev X m_X5_hateThen 24 [a0, a1, a2, a3, a4, a5] st mem := ke_if_eq dX5_hateThen_21 rfl
theorem eX5_hateThen_24 : ev X m_X5_hateThen 24 [vR r, a1, a2, a3, a4, a5] st mem = ev X m_X5_hateThen 25 [vR r, a1, a2, a3, a4, a5] (vR r :: st) mem := ke_aload_n rfl dX5_hateThen_24
theorem eX5_hateThen_25 : ev X m_X5_hateThen 25 [a0, a1, a2, a3, vI x, a5] st mem = ev X m_X5_hateThen 27 [a0, a1, a2, a3, vI x, a5] (vI x :: st) mem := ke_iload rfl dX5_hateThen_25
theorem eX5_hateThen_27 : ev X m_X5_hateThen 27 [a0, a1, a2, a3, a4, a5] (vI n0 :: vR r :: []) mem = evc X (gR mem r 5 (ev X m_X5_no 0 [vR r, vI n0] [] mem)) m_X5_hateThen 30 [a0, a1, a2, a3, a4, a5] [] := ke_callV (m' := m_X5_no) (as := [vI n0]) (n := 1) (rest := []) dX5_hateThen_27 rfl rfl rfl rfl rfl rfl (Nat.le_of_ble_eq_true rfl) (Nat.le_of_ble_eq_true rfl) (Nat.le_of_ble_eq_true rfl) rfl
theorem eX5_hateThen_30 : ev X m_X5_hateThen 30 [a0, a1, a2, a3, a4, a5] [vI x] mem = some (some (vI x), mem) := ke_ireturn dX5_hateThen_30 rfl
theorem eX5_hateThen_31 : ev X m_X5_hateThen 31 [vR r, a1, a2, a3, a4, a5] st mem = ev X m_X5_hateThen 32 [vR r, a1, a2, a3, a4, a5] (vR r :: st) mem := ke_aload_n rfl dX5_hateThen_31
theorem eX5_hateThen_32 : ev X m_X5_hateThen 32 [a0, a1, a2, a3, a4, a5] (vR r :: []) mem = evc X (gR mem r 5 (ev X m_X5_thinks 0 [vR r] [] mem)) m_X5_hateThen 35 [a0, a1, a2, a3, a4, a5] [] := ke_callV (m' := m_X5_thinks) (as := []) (n := 0) (rest := []) dX5_hateThen_32 rfl rfl rfl rfl rfl rfl (Nat.le_of_ble_eq_true rfl) (Nat.le_of_ble_eq_true rfl) (Nat.le_of_ble_eq_true rfl) rfl
theorem eX5_hateThen_35 : ev X m_X5_hateThen 35 [vR r, a1, a2, a3, a4, a5] st mem = ev X m_X5_hateThen 36 [vR r, a1, a2, a3, a4, a5] (vR r :: st) mem := ke_aload_n rfl dX5_hateThen_35
theorem eX5_hateThen_36 : ev X m_X5_hateThen 36 [a0, a1, a2, vI x, a4, a5] st mem = ev X m_X5_hateThen 37 [a0, a1, a2, vI x, a4, a5] (vI x :: st) mem := ke_iload_n rfl dX5_hateThen_36
theorem eX5_hateThen_37 : ev X m_X5_hateThen 37 [a0, a1, a2, a3, a4, a5] (vI n0 :: vR r :: []) mem = evc X (gR mem r 5 (ev X m_X5_goes 0 [vR r, vI n0, vS] [] mem)) m_X5_hateThen 40 [a0, a1, a2, a3, a4, a5] [] := ke_callV (m' := m_X5_goes) (as := [vI n0]) (n := 1) (rest := []) dX5_hateThen_37 rfl rfl rfl rfl rfl rfl (Nat.le_of_ble_eq_true rfl) (Nat.le_of_ble_eq_true rfl) (Nat.le_of_ble_eq_true rfl) rfl
theorem eX5_hateThen_40 : ev X m_X5_hateThen 40 [vR r, a1, a2, a3, a4, a5] st mem = ev X m_X5_hateThen 41 [vR r, a1, a2, a3, a4, a5] (vR r :: st) mem := ke_aload_n rfl dX5_hateThen_40
theorem eX5_hateThen_41 : ev X m_X5_hateThen 41 [a0, a1, a2, a3, a4, a5] (vR r :: st) mem = evb X (fget mem r 5 5) m_X5_hateThen 44 [a0, a1, a2, a3, a4, a5] st mem := ke_getf rfl dX5_hateThen_41
theorem eX5_hateThen_44 : ev X m_X5_hateThen 44 [a0, vI x, a2, a3, a4, a5] st mem = ev X m_X5_hateThen 45 [a0, vI x, a2, a3, a4, a5] (vI x :: st) mem := ke_iload_n rfl dX5_hateThen_44
theorem eX5_hateThen_45 : ev X m_X5_hateThen 45 [a0, a1, vI x, a3, a4, a5] st mem = ev X m_X5_hateThen 46 [a0, a1, vI x, a3, a4, a5] (vI x :: st) mem := ke_iload_n rfl dX5_hateThen_45
theorem eX5_hateThen_46 : ev X m_X5_hateThen 46 [a0, a1, a2, a3, a4, a5] (vI n1 :: vI n0 :: [s0]) mem = evc X (ev X m_X5_spot 0 [vI n0, vI n1] [] mem) m_X5_hateThen 49 [a0, a1, a2, a3, a4, a5] [s0] := ke_callS (m' := m_X5_spot) (as := [vI n0, vI n1]) (n := 2) (rest := [s0]) dX5_hateThen_46 rfl (by decide) rfl rfl rfl rfl rfl (Nat.le_of_ble_eq_true rfl) (Nat.le_of_ble_eq_true rfl) rfl
theorem eX5_hateThen_49 : ev X m_X5_hateThen 49 [a0, a1, a2, a3, a4, a5] (vI x :: vR r :: st) mem = evb X (aget mem r x) m_X5_hateThen 50 [a0, a1, a2, a3, a4, a5] st mem := ke_iaload dX5_hateThen_49
theorem eX5_hateThen_50 : ev X m_X5_hateThen 50 [a0, a1, a2, a3, a4, a5] (vI x :: st) mem = ev X m_X5_hateThen 52 [a0, a1, a2, a3, a4, vI x] st mem := ke_istore (Nat.le_of_ble_eq_true rfl) rfl dX5_hateThen_50
theorem eX5_hateThen_52 : ev X m_X5_hateThen 52 [vR r, a1, a2, a3, a4, a5] st mem = ev X m_X5_hateThen 53 [vR r, a1, a2, a3, a4, a5] (vR r :: st) mem := ke_aload_n rfl dX5_hateThen_52
theorem eX5_hateThen_53 : ev X m_X5_hateThen 53 [a0, a1, a2, a3, a4, a5] (vR r :: []) mem = evc X (gR mem r 5 (ev X m_X5_forgets 0 [vR r] [] mem)) m_X5_hateThen 56 [a0, a1, a2, a3, a4, a5] [] := ke_callV (m' := m_X5_forgets) (as := []) (n := 0) (rest := []) dX5_hateThen_53 rfl rfl rfl rfl rfl rfl (Nat.le_of_ble_eq_true rfl) (Nat.le_of_ble_eq_true rfl) (Nat.le_of_ble_eq_true rfl) rfl
theorem eX5_hateThen_56 : ev X m_X5_hateThen 56 [a0, a1, a2, a3, a4, vI x] st mem = ev X m_X5_hateThen 58 [a0, a1, a2, a3, a4, vI x] (vI x :: st) mem := ke_iload rfl dX5_hateThen_56
theorem eX5_hateThen_58 : ev X m_X5_hateThen 58 [a0, a1, a2, a3, a4, a5] [vI x] mem = some (some (vI x), mem) := ke_ireturn dX5_hateThen_58 rfl
theorem eX5_gotThen_0 : ev X m_X5_gotThen 0 [a0, vI x, a2, a3, a4] st mem = ev X m_X5_gotThen 1 [a0, vI x, a2, a3, a4] (vI x :: st) mem := ke_iload_n rfl dX5_gotThen_0
theorem eX5_gotThen_1 : ev X m_X5_gotThen 1 [a0, a1, a2, a3, a4] (vI n0 :: []) mem = evc X (ev X m_X5_notDays 0 [vI n0] [] mem) m_X5_gotThen 4 [a0, a1, a2, a3, a4] [] := ke_callS (m' := m_X5_notDays) (as := [vI n0]) (n := 1) (rest := []) dX5_gotThen_1 rfl (by decide) rfl rfl rfl rfl rfl (Nat.le_of_ble_eq_true rfl) (Nat.le_of_ble_eq_true rfl) rfl
theorem eX5_gotThen_4 : ev X m_X5_gotThen 4 [a0, a1, a2, a3, a4] (vI x :: st) mem = ev X m_X5_gotThen 5 [a0, a1, a2, vI x, a4] st mem := ke_istore_n (Nat.le_of_ble_eq_true rfl) rfl dX5_gotThen_4
theorem eX5_gotThen_5 : ev X m_X5_gotThen 5 [a0, a1, a2, vI x, a4] st mem = ev X m_X5_gotThen 6 [a0, a1, a2, vI x, a4] (vI x :: st) mem := ke_iload_n rfl dX5_gotThen_5
theorem eX5_gotThen_6 : ev X m_X5_gotThen 6 [a0, a1, a2, a3, a4] (vI x :: st) mem = if x = 0 then ev X m_X5_gotThen 9 [a0, a1, a2, a3, a4] st mem else ev X m_X5_gotThen 24 [a0, a1, a2, a3, a4] st mem := ke_if_ne dX5_gotThen_6 rfl
theorem eX5_gotThen_9 : ev X m_X5_gotThen 9 [a0, a1, vI x, a3, a4] st mem = ev X m_X5_gotThen 10 [a0, a1, vI x, a3, a4] (vI x :: st) mem := ke_iload_n rfl dX5_gotThen_9
theorem eX5_gotThen_10 : ev X m_X5_gotThen 10 [a0, a1, a2, a3, a4] st mem = ev X m_X5_gotThen 11 [a0, a1, a2, a3, a4] (vI (-1) :: st) mem := ke_iconst (by decide) dX5_gotThen_10
theorem eX5_gotThen_11 : ev X m_X5_gotThen 11 [a0, a1, a2, a3, a4] (vI y :: vI x :: st) mem = if x = y then ev X m_X5_gotThen 24 [a0, a1, a2, a3, a4] st mem else ev X m_X5_gotThen 14 [a0, a1, a2, a3, a4] st mem := ke_icmp_eq dX5_gotThen_11 rfl
theorem eX5_gotThen_14 : ev X m_X5_gotThen 14 [vR r, a1, a2, a3, a4] st mem = ev X m_X5_gotThen 15 [vR r, a1, a2, a3, a4] (vR r :: st) mem := ke_aload_n rfl dX5_gotThen_14
theorem eX5_gotThen_15 : ev X m_X5_gotThen 15 [a0, a1, vI x, a3, a4] st mem = ev X m_X5_gotThen 16 [a0, a1, vI x, a3, a4] (vI x :: st) mem := ke_iload_n rfl dX5_gotThen_15
theorem eX5_gotThen_16 : ev X m_X5_gotThen 16 [a0, a1, a2, a3, a4] (vI n0 :: vR r :: []) mem = evc X (gR mem r 5 (ev X m_X5_isOne 0 [vR r, vI n0] [] mem)) m_X5_gotThen 19 [a0, a1, a2, a3, a4] [] := ke_callV (m' := m_X5_isOne) (as := [vI n0]) (n := 1) (rest := []) dX5_gotThen_16 rfl rfl rfl rfl rfl rfl (Nat.le_of_ble_eq_true rfl) (Nat.le_of_ble_eq_true rfl) (Nat.le_of_ble_eq_true rfl) rfl
theorem eX5_gotThen_19 : ev X m_X5_gotThen 19 [a0, a1, a2, a3, a4] (vI x :: st) mem = if x = 0 then ev X m_X5_gotThen 22 [a0, a1, a2, a3, a4] st mem else ev X m_X5_gotThen 24 [a0, a1, a2, a3, a4] st mem := ke_if_ne dX5_gotThen_19 rfl
theorem eX5_gotThen_22 : ev X m_X5_gotThen 22 [a0, a1, a2, a3, a4] st mem = ev X m_X5_gotThen 23 [a0, a1, a2, a3, a4] (vI (-1) :: st) mem := ke_iconst (by decide) dX5_gotThen_22
theorem eX5_gotThen_23 : ev X m_X5_gotThen 23 [a0, a1, a2, a3, a4] (vI x :: st) mem = ev X m_X5_gotThen 24 [a0, a1, a2, vI x, a4] st mem := ke_istore_n (Nat.le_of_ble_eq_true rfl) rfl dX5_gotThen_23
theorem eX5_gotThen_24 : ev X m_X5_gotThen 24 [a0, a1, a2, vI x, a4] st mem = ev X m_X5_gotThen 25 [a0, a1, a2, vI x, a4] (vI x :: st) mem := ke_iload_n rfl dX5_gotThen_24
theorem eX5_gotThen_25 : ev X m_X5_gotThen 25 [a0, a1, a2, a3, a4] (vI x :: st) mem = if x = 0 then ev X m_X5_gotThen 34 [a0, a1, a2, a3, a4] st mem else ev X m_X5_gotThen 28 [a0, a1, a2, a3, a4] st mem := ke_if_eq dX5_gotThen_25 rfl
theorem eX5_gotThen_28 : ev X m_X5_gotThen 28 [vR r, a1, a2, a3, a4] st mem = ev X m_X5_gotThen 29 [vR r, a1, a2, a3, a4] (vR r :: st) mem := ke_aload_n rfl dX5_gotThen_28
theorem eX5_gotThen_29 : ev X m_X5_gotThen 29 [a0, a1, a2, vI x, a4] st mem = ev X m_X5_gotThen 30 [a0, a1, a2, vI x, a4] (vI x :: st) mem := ke_iload_n rfl dX5_gotThen_29
theorem eX5_gotThen_30 : ev X m_X5_gotThen 30 [a0, a1, a2, a3, a4] (vI n0 :: vR r :: []) mem = evc X (gR mem r 5 (ev X m_X5_no 0 [vR r, vI n0] [] mem)) m_X5_gotThen 33 [a0, a1, a2, a3, a4] [] := ke_callV (m' := m_X5_no) (as := [vI n0]) (n := 1) (rest := []) dX5_gotThen_30 rfl rfl rfl rfl rfl rfl (Nat.le_of_ble_eq_true rfl) (Nat.le_of_ble_eq_true rfl) (Nat.le_of_ble_eq_true rfl) rfl
theorem eX5_gotThen_33 : ev X m_X5_gotThen 33 [a0, a1, a2, a3, a4] [vI x] mem = some (some (vI x), mem) := ke_ireturn dX5_gotThen_33 rfl
theorem eX5_gotThen_34 : ev X m_X5_gotThen 34 [vR r, a1, a2, a3, a4] st mem = ev X m_X5_gotThen 35 [vR r, a1, a2, a3, a4] (vR r :: st) mem := ke_aload_n rfl dX5_gotThen_34
theorem eX5_gotThen_35 : ev X m_X5_gotThen 35 [a0, a1, a2, a3, a4] (vR r :: []) mem = evc X (gR mem r 5 (ev X m_X5_thinks 0 [vR r] [] mem)) m_X5_gotThen 38 [a0, a1, a2, a3, a4] [] := ke_callV (m' := m_X5_thinks) (as := []) (n := 0) (rest := []) dX5_gotThen_35 rfl rfl rfl rfl rfl rfl (Nat.le_of_ble_eq_true rfl) (Nat.le_of_ble_eq_true rfl) (Nat.le_of_ble_eq_true rfl) rfl
theorem eX5_gotThen_38 : ev X m_X5_gotThen 38 [vR r, a1, a2, a3, a4] st mem = ev X m_X5_gotThen 39 [vR r, a1, a2, a3, a4] (vR r :: st) mem := ke_aload_n rfl dX5_gotThen_38
theorem eX5_gotThen_39 : ev X m_X5_gotThen 39 [a0, vI x, a2, a3, a4] st mem = ev X m_X5_gotThen 40 [a0, vI x, a2, a3, a4] (vI x :: st) mem := ke_iload_n rfl dX5_gotThen_39
theorem eX5_gotThen_40 : ev X m_X5_gotThen 40 [a0, a1, a2, a3, a4] (vI n0 :: vR r :: []) mem = evc X (gR mem r 5 (ev X m_X5_goes 0 [vR r, vI n0, vS] [] mem)) m_X5_gotThen 43 [a0, a1, a2, a3, a4] [] := ke_callV (m' := m_X5_goes) (as := [vI n0]) (n := 1) (rest := []) dX5_gotThen_40 rfl rfl rfl rfl rfl rfl (Nat.le_of_ble_eq_true rfl) (Nat.le_of_ble_eq_true rfl) (Nat.le_of_ble_eq_true rfl) rfl
theorem eX5_gotThen_43 : ev X m_X5_gotThen 43 [a0, a1, vI x, a3, a4] st mem = ev X m_X5_gotThen 44 [a0, a1, vI x, a3, a4] (vI x :: st) mem := ke_iload_n rfl dX5_gotThen_43
theorem eX5_gotThen_44 : ev X m_X5_gotThen 44 [a0, a1, a2, a3, a4] (vI x :: st) mem = if x < 0 then ev X m_X5_gotThen 47 [a0, a1, a2, a3, a4] st mem else ev X m_X5_gotThen 58 [a0, a1, a2, a3, a4] st mem := ke_if_ge dX5_gotThen_44 rfl
theorem eX5_gotThen_47 : ev X m_X5_gotThen 47 [vR r, a1, a2, a3, a4] st mem = ev X m_X5_gotThen 48 [vR r, a1, a2, a3, a4] (vR r :: st) mem := ke_aload_n rfl dX5_gotThen_47
theorem eX5_gotThen_48 : ev X m_X5_gotThen 48 [a0, a1, a2, a3, a4] st mem = ev X m_X5_gotThen 49 [a0, a1, a2, a3, a4] (vI 2 :: st) mem := ke_iconst (by decide) dX5_gotThen_48
theorem eX5_gotThen_49 : ev X m_X5_gotThen 49 [a0, a1, a2, a3, a4] (vI n0 :: vR r :: []) mem = evc X (gR mem r 5 (ev X m_X5_thoseIn 0 [vR r, vI n0, vS, vS] [] mem)) m_X5_gotThen 52 [a0, a1, a2, a3, a4] [] := ke_callV (m' := m_X5_thoseIn) (as := [vI n0]) (n := 1) (rest := []) dX5_gotThen_49 rfl rfl rfl rfl rfl rfl (Nat.le_of_ble_eq_true rfl) (Nat.le_of_ble_eq_true rfl) (Nat.le_of_ble_eq_true rfl) rfl
theorem eX5_gotThen_52 : ev X m_X5_gotThen 52 [a0, a1, a2, a3, a4] (vI n0 :: []) mem = evc X (ev X m_X5_bits 0 [vI n0, vS, vS] [] mem) m_X5_gotThen 55 [a0, a1, a2, a3, a4] [] := ke_callS (m' := m_X5_bits) (as := [vI n0]) (n := 1) (rest := []) dX5_gotThen_52 rfl (by decide) rfl rfl rfl rfl rfl (Nat.le_of_ble_eq_true rfl) (Nat.le_of_ble_eq_true rfl) rfl
theorem eX5_gotThen_55 : ev X m_X5_gotThen 55 [a0, a1, a2, a3, a4] st mem = ev X m_X5_gotThen 64 [a0, a1, a2, a3, a4] st mem := ke_goto dX5_gotThen_55 rfl
theorem eX5_gotThen_58 : ev X m_X5_gotThen 58 [vR r, a1, a2, a3, a4] st mem = ev X m_X5_gotThen 59 [vR r, a1, a2, a3, a4] (vR r :: st) mem := ke_aload_n rfl dX5_gotThen_58
theorem eX5_gotThen_59 : ev X m_X5_gotThen 59 [a0, a1, a2, a3, a4] (vR r :: st) mem = evb X (fget mem r 5 4) m_X5_gotThen 62 [a0, a1, a2, a3, a4] st mem := ke_getf rfl dX5_gotThen_59
theorem eX5_gotThen_62 : ev X m_X5_gotThen 62 [a0, a1, vI x, a3, a4] st mem = ev X m_X5_gotThen 63 [a0, a1, vI x, a3, a4] (vI x :: st) mem := ke_iload_n rfl dX5_gotThen_62
theorem eX5_gotThen_63 : ev X m_X5_gotThen 63 [a0, a1, a2, a3, a4] (vI x :: vR r :: st) mem = evb X (aget mem r x) m_X5_gotThen 64 [a0, a1, a2, a3, a4] st mem := ke_iaload dX5_gotThen_63
theorem eX5_gotThen_64 : ev X m_X5_gotThen 64 [a0, a1, a2, a3, a4] (vI x :: st) mem = ev X m_X5_gotThen 66 [a0, a1, a2, a3, vI x] st mem := ke_istore (Nat.le_of_ble_eq_true rfl) rfl dX5_gotThen_64
theorem eX5_gotThen_66 : ev X m_X5_gotThen 66 [vR r, a1, a2, a3, a4] st mem = ev X m_X5_gotThen 67 [vR r, a1, a2, a3, a4] (vR r :: st) mem := ke_aload_n rfl dX5_gotThen_66
theorem eX5_gotThen_67 : ev X m_X5_gotThen 67 [a0, a1, a2, a3, a4] (vR r :: []) mem = evc X (gR mem r 5 (ev X m_X5_forgets 0 [vR r] [] mem)) m_X5_gotThen 70 [a0, a1, a2, a3, a4] [] := ke_callV (m' := m_X5_forgets) (as := []) (n := 0) (rest := []) dX5_gotThen_67 rfl rfl rfl rfl rfl rfl (Nat.le_of_ble_eq_true rfl) (Nat.le_of_ble_eq_true rfl) (Nat.le_of_ble_eq_true rfl) rfl
theorem eX5_gotThen_70 : ev X m_X5_gotThen 70 [a0, a1, a2, a3, vI x] st mem = ev X m_X5_gotThen 72 [a0, a1, a2, a3, vI x] (vI x :: st) mem := ke_iload rfl dX5_gotThen_70
theorem eX5_gotThen_72 : ev X m_X5_gotThen 72 [a0, a1, a2, a3, a4] [vI x] mem = some (some (vI x), mem) := ke_ireturn dX5_gotThen_72 rfl
theorem eX5_when_0 : ev X m_X5_when 0 [vR r, a1] st mem = ev X m_X5_when 1 [vR r, a1] (vR r :: st) mem := ke_aload_n rfl dX5_when_0
theorem eX5_when_1 : ev X m_X5_when 1 [a0, vI x] st mem = ev X m_X5_when 2 [a0, vI x] (vI x :: st) mem := ke_iload_n rfl dX5_when_1
theorem eX5_when_2 : ev X m_X5_when 2 [a0, a1] (vI n0 :: vR r :: []) mem = evc X (gR mem r 5 (ev X m_X5_isParcel 0 [vR r, vI n0] [] mem)) m_X5_when 5 [a0, a1] [] := ke_callV (m' := m_X5_isParcel) (as := [vI n0]) (n := 1) (rest := []) dX5_when_2 rfl rfl rfl rfl rfl rfl (Nat.le_of_ble_eq_true rfl) (Nat.le_of_ble_eq_true rfl) (Nat.le_of_ble_eq_true rfl) rfl
theorem eX5_when_5 : ev X m_X5_when 5 [a0, a1] (vI x :: st) mem = if x = 0 then ev X m_X5_when 16 [a0, a1] st mem else ev X m_X5_when 8 [a0, a1] st mem := ke_if_eq dX5_when_5 rfl
theorem eX5_when_8 : ev X m_X5_when 8 [vR r, a1] st mem = ev X m_X5_when 9 [vR r, a1] (vR r :: st) mem := ke_aload_n rfl dX5_when_8
theorem eX5_when_9 : ev X m_X5_when 9 [a0, vI x] st mem = ev X m_X5_when 10 [a0, vI x] (vI x :: st) mem := ke_iload_n rfl dX5_when_9
theorem eX5_when_10 : ev X m_X5_when 10 [a0, a1] (vI n0 :: vR r :: []) mem = evc X (gR mem r 5 (ev X m_X5_whenOf 0 [vR r, vI n0, vS, vS] [] mem)) m_X5_when 13 [a0, a1] [] := ke_callV (m' := m_X5_whenOf) (as := [vI n0]) (n := 1) (rest := []) dX5_when_10 rfl rfl rfl rfl rfl rfl (Nat.le_of_ble_eq_true rfl) (Nat.le_of_ble_eq_true rfl) (Nat.le_of_ble_eq_true rfl) rfl
theorem eX5_when_13 : ev X m_X5_when 13 [a0, a1] st mem = ev X m_X5_when 21 [a0, a1] st mem := ke_goto dX5_when_13 rfl
theorem eX5_when_16 : ev X m_X5_when 16 [vR r, a1] st mem = ev X m_X5_when 17 [vR r, a1] (vR r :: st) mem := ke_aload_n rfl dX5_when_16
theorem eX5_when_17 : ev X m_X5_when 17 [a0, a1] st mem = ev X m_X5_when 18 [a0, a1] (vI (-1) :: st) mem := ke_iconst (by decide) dX5_when_17
theorem eX5_when_18 : ev X m_X5_when 18 [a0, a1] (vI n0 :: vR r :: []) mem = evc X (gR mem r 5 (ev X m_X5_no 0 [vR r, vI n0] [] mem)) m_X5_when 21 [a0, a1] [] := ke_callV (m' := m_X5_no) (as := [vI n0]) (n := 1) (rest := []) dX5_when_18 rfl rfl rfl rfl rfl rfl (Nat.le_of_ble_eq_true rfl) (Nat.le_of_ble_eq_true rfl) (Nat.le_of_ble_eq_true rfl) rfl
theorem eX5_when_21 : ev X m_X5_when 21 [a0, a1] [vI x] mem = some (some (vI x), mem) := ke_ireturn dX5_when_21 rfl
theorem eX5_whenOf_0 : ev X m_X5_whenOf 0 [vR r, a1, a2, a3] st mem = ev X m_X5_whenOf 1 [vR r, a1, a2, a3] (vR r :: st) mem := ke_aload_n rfl dX5_whenOf_0
theorem eX5_whenOf_1 : ev X m_X5_whenOf 1 [a0, a1, a2, a3] (vR r :: []) mem = evc X (gR mem r 5 (ev X m_X5_thinks 0 [vR r] [] mem)) m_X5_whenOf 4 [a0, a1, a2, a3] [] := ke_callV (m' := m_X5_thinks) (as := []) (n := 0) (rest := []) dX5_whenOf_1 rfl rfl rfl rfl rfl rfl (Nat.le_of_ble_eq_true rfl) (Nat.le_of_ble_eq_true rfl) (Nat.le_of_ble_eq_true rfl) rfl
theorem eX5_whenOf_4 : ev X m_X5_whenOf 4 [a0, a1, a2, a3] st mem = ev X m_X5_whenOf 6 [a0, a1, a2, a3] (vI (-9) :: st) mem := ke_bipush (by decide) dX5_whenOf_4
theorem eX5_whenOf_6 : ev X m_X5_whenOf 6 [a0, a1, a2, a3] (vI x :: st) mem = ev X m_X5_whenOf 7 [a0, a1, vI x, a3] st mem := ke_istore_n (Nat.le_of_ble_eq_true rfl) rfl dX5_whenOf_6
theorem eX5_whenOf_7 : ev X m_X5_whenOf 7 [a0, a1, a2, a3] st mem = ev X m_X5_whenOf 8 [a0, a1, a2, a3] (vI 0 :: st) mem := ke_iconst (by decide) dX5_whenOf_7
theorem eX5_whenOf_8 : ev X m_X5_whenOf 8 [a0, a1, a2, a3] (vI x :: st) mem = ev X m_X5_whenOf 9 [a0, a1, a2, vI x] st mem := ke_istore_n (Nat.le_of_ble_eq_true rfl) rfl dX5_whenOf_8
theorem eX5_whenOf_9 : ev X m_X5_whenOf 9 [a0, a1, a2, vI x] st mem = ev X m_X5_whenOf 10 [a0, a1, a2, vI x] (vI x :: st) mem := ke_iload_n rfl dX5_whenOf_9
theorem eX5_whenOf_10 : ev X m_X5_whenOf 10 [a0, a1, a2, a3] st mem = ev X m_X5_whenOf 12 [a0, a1, a2, a3] (vI 99 :: st) mem := ke_bipush (by decide) dX5_whenOf_10
theorem eX5_whenOf_12 : ev X m_X5_whenOf 12 [a0, a1, a2, a3] (vI y :: vI x :: st) mem = if y < x then ev X m_X5_whenOf 47 [a0, a1, a2, a3] st mem else ev X m_X5_whenOf 15 [a0, a1, a2, a3] st mem := ke_icmp_gt dX5_whenOf_12 rfl
theorem eX5_whenOf_15 : ev X m_X5_whenOf 15 [a0, a1, vI x, a3] st mem = ev X m_X5_whenOf 16 [a0, a1, vI x, a3] (vI x :: st) mem := ke_iload_n rfl dX5_whenOf_15
theorem eX5_whenOf_16 : ev X m_X5_whenOf 16 [a0, a1, a2, a3] (vI x :: st) mem = if x < 0 then ev X m_X5_whenOf 19 [a0, a1, a2, a3] st mem else ev X m_X5_whenOf 47 [a0, a1, a2, a3] st mem := ke_if_ge dX5_whenOf_16 rfl
theorem eX5_whenOf_19 : ev X m_X5_whenOf 19 [vR r, a1, a2, a3] st mem = ev X m_X5_whenOf 20 [vR r, a1, a2, a3] (vR r :: st) mem := ke_aload_n rfl dX5_whenOf_19
theorem eX5_whenOf_20 : ev X m_X5_whenOf 20 [a0, a1, a2, a3] (vR r :: st) mem = evb X (fget mem r 5 8) m_X5_whenOf 23 [a0, a1, a2, a3] st mem := ke_getf rfl dX5_whenOf_20
theorem eX5_whenOf_23 : ev X m_X5_whenOf 23 [a0, vI x, a2, a3] st mem = ev X m_X5_whenOf 24 [a0, vI x, a2, a3] (vI x :: st) mem := ke_iload_n rfl dX5_whenOf_23
theorem eX5_whenOf_24 : ev X m_X5_whenOf 24 [a0, a1, a2, a3] (vI x :: vR r :: st) mem = evb X (aget mem r x) m_X5_whenOf 25 [a0, a1, a2, a3] st mem := ke_iaload dX5_whenOf_24
theorem eX5_whenOf_25 : ev X m_X5_whenOf 25 [a0, a1, a2, a3] st mem = ev X m_X5_whenOf 26 [a0, a1, a2, a3] (vI 2 :: st) mem := ke_iconst (by decide) dX5_whenOf_25
theorem eX5_whenOf_26 : ev X m_X5_whenOf 26 [a0, a1, a2, a3] (vI y :: vI x :: st) mem = if x = y then ev X m_X5_whenOf 29 [a0, a1, a2, a3] st mem else ev X m_X5_whenOf 33 [a0, a1, a2, a3] st mem := ke_icmp_ne dX5_whenOf_26 rfl
theorem eX5_whenOf_29 : ev X m_X5_whenOf 29 [a0, a1, a2, vI x] st mem = ev X m_X5_whenOf 30 [a0, a1, a2, vI x] (vI x :: st) mem := ke_iload_n rfl dX5_whenOf_29
theorem eX5_whenOf_30 : ev X m_X5_whenOf 30 [a0, a1, a2, a3] st mem = ev X m_X5_whenOf 35 [a0, a1, a2, a3] st mem := ke_goto dX5_whenOf_30 rfl
theorem eX5_whenOf_33 : ev X m_X5_whenOf 33 [a0, a1, a2, a3] st mem = ev X m_X5_whenOf 35 [a0, a1, a2, a3] (vI (-9) :: st) mem := ke_bipush (by decide) dX5_whenOf_33
theorem eX5_whenOf_35 : ev X m_X5_whenOf 35 [a0, a1, a2, a3] (vI x :: st) mem = ev X m_X5_whenOf 36 [a0, a1, vI x, a3] st mem := ke_istore_n (Nat.le_of_ble_eq_true rfl) rfl dX5_whenOf_35
theorem eX5_whenOf_36 : ev X m_X5_whenOf 36 [vR r, a1, a2, a3] st mem = ev X m_X5_whenOf 37 [vR r, a1, a2, a3] (vR r :: st) mem := ke_aload_n rfl dX5_whenOf_36
theorem eX5_whenOf_37 : ev X m_X5_whenOf 37 [a0, a1, a2, a3] st mem = ev X m_X5_whenOf 38 [a0, a1, a2, a3] (vI 0 :: st) mem := ke_iconst (by decide) dX5_whenOf_37
theorem eX5_whenOf_38 : ev X m_X5_whenOf 38 [a0, a1, a2, a3] (vI n0 :: vR r :: []) mem = evc X (gR mem r 5 (ev X m_X5_goesDay 0 [vR r, vI n0, vS] [] mem)) m_X5_whenOf 41 [a0, a1, a2, a3] [] := ke_callV (m' := m_X5_goesDay) (as := [vI n0]) (n := 1) (rest := []) dX5_whenOf_38 rfl rfl rfl rfl rfl rfl (Nat.le_of_ble_eq_true rfl) (Nat.le_of_ble_eq_true rfl) (Nat.le_of_ble_eq_true rfl) rfl
theorem eX5_whenOf_41 : ev X m_X5_whenOf 41 [a0, a1, a2, vI x] st mem = ev X m_X5_whenOf 44 [a0, a1, a2, vI (w32 (x + 1))] st mem := ke_iinc rfl (Nat.le_of_ble_eq_true rfl) rfl dX5_whenOf_41
theorem eX5_whenOf_44 : ev X m_X5_whenOf 44 [a0, a1, a2, a3] st mem = ev X m_X5_whenOf 9 [a0, a1, a2, a3] st mem := ke_goto dX5_whenOf_44 rfl
theorem eX5_whenOf_47 : ev X m_X5_whenOf 47 [vR r, a1, a2, a3] st mem = ev X m_X5_whenOf 48 [vR r, a1, a2, a3] (vR r :: st) mem := ke_aload_n rfl dX5_whenOf_47
theorem eX5_whenOf_48 : ev X m_X5_whenOf 48 [a0, a1, a2, a3] (vR r :: []) mem = evc X (gR mem r 5 (ev X m_X5_forgets 0 [vR r] [] mem)) m_X5_whenOf 51 [a0, a1, a2, a3] [] := ke_callV (m' := m_X5_forgets) (as := []) (n := 0) (rest := []) dX5_whenOf_48 rfl rfl rfl rfl rfl rfl (Nat.le_of_ble_eq_true rfl) (Nat.le_of_ble_eq_true rfl) (Nat.le_of_ble_eq_true rfl) rfl
theorem eX5_whenOf_51 : ev X m_X5_whenOf 51 [a0, a1, vI x, a3] st mem = ev X m_X5_whenOf 52 [a0, a1, vI x, a3] (vI x :: st) mem := ke_iload_n rfl dX5_whenOf_51
theorem eX5_whenOf_52 : ev X m_X5_whenOf 52 [a0, a1, a2, a3] [vI x] mem = some (some (vI x), mem) := ke_ireturn dX5_whenOf_52 rfl
theorem eX5_first_0 : ev X m_X5_first 0 [a0, vI x, a2, a3, a4, a5, a6] st mem = ev X m_X5_first 1 [a0, vI x, a2, a3, a4, a5, a6] (vI x :: st) mem := ke_iload_n rfl dX5_first_0
theorem eX5_first_1 : ev X m_X5_first 1 [a0, a1, a2, a3, a4, a5, a6] st mem = ev X m_X5_first 2 [a0, a1, a2, a3, a4, a5, a6] (vI 0 :: st) mem := ke_iconst (by decide) dX5_first_1
theorem eX5_first_2 : ev X m_X5_first 2 [a0, a1, a2, a3, a4, a5, a6] st mem = ev X m_X5_first 3 [a0, a1, a2, a3, a4, a5, a6] (vI 2 :: st) mem := ke_iconst (by decide) dX5_first_2
theorem eX5_first_3 : ev X m_X5_first 3 [a0, a1, a2, a3, a4, a5, a6] (vI n2 :: vI n1 :: vI n0 :: []) mem = evc X (ev X m_X5_isIn 0 [vI n0, vI n1, vI n2] [] mem) m_X5_first 6 [a0, a1, a2, a3, a4, a5, a6] [] := ke_callS (m' := m_X5_isIn) (as := [vI n0, vI n1, vI n2]) (n := 3) (rest := []) dX5_first_3 rfl (by decide) rfl rfl rfl rfl rfl (Nat.le_of_ble_eq_true rfl) (Nat.le_of_ble_eq_true rfl) rfl
theorem eX5_first_6 : ev X m_X5_first 6 [a0, a1, a2, a3, a4, a5, a6] (vI x :: st) mem = if x = 0 then ev X m_X5_first 9 [a0, a1, a2, a3, a4, a5, a6] st mem else ev X m_X5_first 16 [a0, a1, a2, a3, a4, a5, a6] st mem := ke_if_ne dX5_first_6 rfl
theorem eX5_first_9 : ev X m_X5_first 9 [vR r, a1, a2, a3, a4, a5, a6] st mem = ev X m_X5_first 10 [vR r, a1, a2, a3, a4, a5, a6] (vR r :: st) mem := ke_aload_n rfl dX5_first_9
theorem eX5_first_10 : ev X m_X5_first 10 [a0, a1, a2, a3, a4, a5, a6] st mem = ev X m_X5_first 12 [a0, a1, a2, a3, a4, a5, a6] (vI (-2) :: st) mem := ke_bipush (by decide) dX5_first_10
theorem eX5_first_12 : ev X m_X5_first 12 [a0, a1, a2, a3, a4, a5, a6] (vI n0 :: vR r :: []) mem = evc X (gR mem r 5 (ev X m_X5_no 0 [vR r, vI n0] [] mem)) m_X5_first 15 [a0, a1, a2, a3, a4, a5, a6] [] := ke_callV (m' := m_X5_no) (as := [vI n0]) (n := 1) (rest := []) dX5_first_12 rfl rfl rfl rfl rfl rfl (Nat.le_of_ble_eq_true rfl) (Nat.le_of_ble_eq_true rfl) (Nat.le_of_ble_eq_true rfl) rfl
theorem eX5_first_15 : ev X m_X5_first 15 [a0, a1, a2, a3, a4, a5, a6] [vI x] mem = some (some (vI x), mem) := ke_ireturn dX5_first_15 rfl
theorem eX5_first_16 : ev X m_X5_first 16 [a0, a1, a2, a3, a4, a5, a6] st mem = ev X m_X5_first 18 [a0, a1, a2, a3, a4, a5, a6] (vI (-9) :: st) mem := ke_bipush (by decide) dX5_first_16
theorem eX5_first_18 : ev X m_X5_first 18 [a0, a1, a2, a3, a4, a5, a6] (vI x :: st) mem = ev X m_X5_first 19 [a0, a1, vI x, a3, a4, a5, a6] st mem := ke_istore_n (Nat.le_of_ble_eq_true rfl) rfl dX5_first_18
theorem eX5_first_19 : ev X m_X5_first 19 [a0, a1, a2, a3, a4, a5, a6] st mem = ev X m_X5_first 22 [a0, a1, a2, a3, a4, a5, a6] (vI 1000 :: st) mem := ke_sipush (by decide) dX5_first_19
theorem eX5_first_22 : ev X m_X5_first 22 [a0, a1, a2, a3, a4, a5, a6] (vI x :: st) mem = ev X m_X5_first 23 [a0, a1, a2, vI x, a4, a5, a6] st mem := ke_istore_n (Nat.le_of_ble_eq_true rfl) rfl dX5_first_22
theorem eX5_first_23 : ev X m_X5_first 23 [a0, a1, a2, a3, a4, a5, a6] st mem = ev X m_X5_first 24 [a0, a1, a2, a3, a4, a5, a6] (vI 0 :: st) mem := ke_iconst (by decide) dX5_first_23
theorem eX5_first_24 : ev X m_X5_first 24 [a0, a1, a2, a3, a4, a5, a6] (vI x :: st) mem = ev X m_X5_first 26 [a0, a1, a2, a3, vI x, a5, a6] st mem := ke_istore (Nat.le_of_ble_eq_true rfl) rfl dX5_first_24
theorem eX5_first_26 : ev X m_X5_first 26 [a0, a1, a2, a3, a4, a5, a6] st mem = ev X m_X5_first 27 [a0, a1, a2, a3, a4, a5, a6] (vI 0 :: st) mem := ke_iconst (by decide) dX5_first_26
theorem eX5_first_27 : ev X m_X5_first 27 [a0, a1, a2, a3, a4, a5, a6] (vI x :: st) mem = ev X m_X5_first 29 [a0, a1, a2, a3, a4, vI x, a6] st mem := ke_istore (Nat.le_of_ble_eq_true rfl) rfl dX5_first_27
theorem eX5_first_29 : ev X m_X5_first 29 [a0, a1, a2, a3, a4, vI x, a6] st mem = ev X m_X5_first 31 [a0, a1, a2, a3, a4, vI x, a6] (vI x :: st) mem := ke_iload rfl dX5_first_29
theorem eX5_first_31 : ev X m_X5_first 31 [vR r, a1, a2, a3, a4, a5, a6] st mem = ev X m_X5_first 32 [vR r, a1, a2, a3, a4, a5, a6] (vR r :: st) mem := ke_aload_n rfl dX5_first_31
theorem eX5_first_32 : ev X m_X5_first 32 [a0, a1, a2, a3, a4, a5, a6] (vR r :: st) mem = evb X (fget mem r 5 12) m_X5_first 35 [a0, a1, a2, a3, a4, a5, a6] st mem := ke_getf rfl dX5_first_32
theorem eX5_first_35 : ev X m_X5_first 35 [a0, a1, a2, a3, a4, a5, a6] (vI y :: vI x :: st) mem = if x < y then ev X m_X5_first 38 [a0, a1, a2, a3, a4, a5, a6] st mem else ev X m_X5_first 88 [a0, a1, a2, a3, a4, a5, a6] st mem := ke_icmp_ge dX5_first_35 rfl
theorem eX5_first_38 : ev X m_X5_first 38 [vR r, a1, a2, a3, a4, a5, a6] st mem = ev X m_X5_first 39 [vR r, a1, a2, a3, a4, a5, a6] (vR r :: st) mem := ke_aload_n rfl dX5_first_38
theorem eX5_first_39 : ev X m_X5_first 39 [a0, a1, a2, a3, a4, vI x, a6] st mem = ev X m_X5_first 41 [a0, a1, a2, a3, a4, vI x, a6] (vI x :: st) mem := ke_iload rfl dX5_first_39
theorem eX5_first_41 : ev X m_X5_first 41 [a0, a1, a2, a3, a4, a5, a6] (vI n0 :: vR r :: []) mem = evc X (gR mem r 5 (ev X m_X5_lateOf 0 [vR r, vI n0, vS] [] mem)) m_X5_first 44 [a0, a1, a2, a3, a4, a5, a6] [] := ke_callV (m' := m_X5_lateOf) (as := [vI n0]) (n := 1) (rest := []) dX5_first_41 rfl rfl rfl rfl rfl rfl (Nat.le_of_ble_eq_true rfl) (Nat.le_of_ble_eq_true rfl) (Nat.le_of_ble_eq_true rfl) rfl
theorem eX5_first_44 : ev X m_X5_first 44 [a0, a1, a2, a3, a4, a5, a6] (vI x :: st) mem = ev X m_X5_first 46 [a0, a1, a2, a3, a4, a5, vI x] st mem := ke_istore (Nat.le_of_ble_eq_true rfl) rfl dX5_first_44
theorem eX5_first_46 : ev X m_X5_first 46 [a0, a1, a2, a3, a4, a5, vI x] st mem = ev X m_X5_first 48 [a0, a1, a2, a3, a4, a5, vI x] (vI x :: st) mem := ke_iload rfl dX5_first_46
theorem eX5_first_48 : ev X m_X5_first 48 [a0, a1, a2, a3, vI x, a5, a6] st mem = ev X m_X5_first 50 [a0, a1, a2, a3, vI x, a5, a6] (vI x :: st) mem := ke_iload rfl dX5_first_48
theorem eX5_first_50 : ev X m_X5_first 50 [a0, a1, a2, a3, a4, a5, a6] (vI y :: vI x :: st) mem = if y < x then ev X m_X5_first 53 [a0, a1, a2, a3, a4, a5, a6] st mem else ev X m_X5_first 58 [a0, a1, a2, a3, a4, a5, a6] st mem := ke_icmp_le dX5_first_50 rfl
theorem eX5_first_53 : ev X m_X5_first 53 [a0, a1, a2, a3, a4, a5, vI x] st mem = ev X m_X5_first 55 [a0, a1, a2, a3, a4, a5, vI x] (vI x :: st) mem := ke_iload rfl dX5_first_53
theorem eX5_first_55 : ev X m_X5_first 55 [a0, a1, a2, a3, a4, a5, a6] st mem = ev X m_X5_first 60 [a0, a1, a2, a3, a4, a5, a6] st mem := ke_goto dX5_first_55 rfl
theorem eX5_first_58 : ev X m_X5_first 58 [a0, a1, a2, a3, vI x, a5, a6] st mem = ev X m_X5_first 60 [a0, a1, a2, a3, vI x, a5, a6] (vI x :: st) mem := ke_iload rfl dX5_first_58
theorem eX5_first_60 : ev X m_X5_first 60 [a0, a1, a2, a3, a4, a5, a6] (vI x :: st) mem = ev X m_X5_first 62 [a0, a1, a2, a3, vI x, a5, a6] st mem := ke_istore (Nat.le_of_ble_eq_true rfl) rfl dX5_first_60
theorem eX5_first_62 : ev X m_X5_first 62 [a0, a1, a2, a3, a4, a5, vI x] st mem = ev X m_X5_first 64 [a0, a1, a2, a3, a4, a5, vI x] (vI x :: st) mem := ke_iload rfl dX5_first_62
theorem eX5_first_64 : ev X m_X5_first 64 [a0, a1, a2, a3, a4, a5, a6] (vI x :: st) mem = if x = 0 then ev X m_X5_first 82 [a0, a1, a2, a3, a4, a5, a6] st mem else ev X m_X5_first 67 [a0, a1, a2, a3, a4, a5, a6] st mem := ke_if_eq dX5_first_64 rfl
theorem eX5_first_67 : ev X m_X5_first 67 [a0, a1, a2, a3, a4, a5, vI x] st mem = ev X m_X5_first 69 [a0, a1, a2, a3, a4, a5, vI x] (vI x :: st) mem := ke_iload rfl dX5_first_67
theorem eX5_first_69 : ev X m_X5_first 69 [a0, a1, a2, vI x, a4, a5, a6] st mem = ev X m_X5_first 70 [a0, a1, a2, vI x, a4, a5, a6] (vI x :: st) mem := ke_iload_n rfl dX5_first_69
theorem eX5_first_70 : ev X m_X5_first 70 [a0, a1, a2, a3, a4, a5, a6] (vI y :: vI x :: st) mem = if x < y then ev X m_X5_first 76 [a0, a1, a2, a3, a4, a5, a6] st mem else ev X m_X5_first 73 [a0, a1, a2, a3, a4, a5, a6] st mem := ke_icmp_lt dX5_first_70 rfl
theorem eX5_first_73 : ev X m_X5_first 73 [a0, a1, a2, a3, a4, a5, a6] st mem = ev X m_X5_first 82 [a0, a1, a2, a3, a4, a5, a6] st mem := ke_goto dX5_first_73 rfl
theorem eX5_first_76 : ev X m_X5_first 76 [a0, a1, a2, a3, a4, vI x, a6] st mem = ev X m_X5_first 78 [a0, a1, a2, a3, a4, vI x, a6] (vI x :: st) mem := ke_iload rfl dX5_first_76
theorem eX5_first_78 : ev X m_X5_first 78 [a0, a1, a2, a3, a4, a5, a6] (vI x :: st) mem = ev X m_X5_first 79 [a0, a1, vI x, a3, a4, a5, a6] st mem := ke_istore_n (Nat.le_of_ble_eq_true rfl) rfl dX5_first_78
theorem eX5_first_79 : ev X m_X5_first 79 [a0, a1, a2, a3, a4, a5, vI x] st mem = ev X m_X5_first 81 [a0, a1, a2, a3, a4, a5, vI x] (vI x :: st) mem := ke_iload rfl dX5_first_79
theorem eX5_first_81 : ev X m_X5_first 81 [a0, a1, a2, a3, a4, a5, a6] (vI x :: st) mem = ev X m_X5_first 82 [a0, a1, a2, vI x, a4, a5, a6] st mem := ke_istore_n (Nat.le_of_ble_eq_true rfl) rfl dX5_first_81
theorem eX5_first_82 : ev X m_X5_first 82 [a0, a1, a2, a3, a4, vI x, a6] st mem = ev X m_X5_first 85 [a0, a1, a2, a3, a4, vI (w32 (x + 1)), a6] st mem := ke_iinc rfl (Nat.le_of_ble_eq_true rfl) rfl dX5_first_82
theorem eX5_first_85 : ev X m_X5_first 85 [a0, a1, a2, a3, a4, a5, a6] st mem = ev X m_X5_first 29 [a0, a1, a2, a3, a4, a5, a6] st mem := ke_goto dX5_first_85 rfl
theorem eX5_first_88 : ev X m_X5_first 88 [a0, vI x, a2, a3, a4, a5, a6] st mem = ev X m_X5_first 89 [a0, vI x, a2, a3, a4, a5, a6] (vI x :: st) mem := ke_iload_n rfl dX5_first_88
theorem eX5_first_89 : ev X m_X5_first 89 [a0, a1, a2, a3, a4, a5, a6] (vI x :: st) mem = if x = 0 then ev X m_X5_first 92 [a0, a1, a2, a3, a4, a5, a6] st mem else ev X m_X5_first 96 [a0, a1, a2, a3, a4, a5, a6] st mem := ke_if_ne dX5_first_89 rfl
theorem eX5_first_92 : ev X m_X5_first 92 [a0, a1, vI x, a3, a4, a5, a6] st mem = ev X m_X5_first 93 [a0, a1, vI x, a3, a4, a5, a6] (vI x :: st) mem := ke_iload_n rfl dX5_first_92
theorem eX5_first_93 : ev X m_X5_first 93 [a0, a1, a2, a3, a4, a5, a6] st mem = ev X m_X5_first 129 [a0, a1, a2, a3, a4, a5, a6] st mem := ke_goto dX5_first_93 rfl
theorem eX5_first_96 : ev X m_X5_first 96 [a0, vI x, a2, a3, a4, a5, a6] st mem = ev X m_X5_first 97 [a0, vI x, a2, a3, a4, a5, a6] (vI x :: st) mem := ke_iload_n rfl dX5_first_96
theorem eX5_first_97 : ev X m_X5_first 97 [a0, a1, a2, a3, a4, a5, a6] st mem = ev X m_X5_first 98 [a0, a1, a2, a3, a4, a5, a6] (vI 1 :: st) mem := ke_iconst (by decide) dX5_first_97
theorem eX5_first_98 : ev X m_X5_first 98 [a0, a1, a2, a3, a4, a5, a6] (vI y :: vI x :: st) mem = if x = y then ev X m_X5_first 101 [a0, a1, a2, a3, a4, a5, a6] st mem else ev X m_X5_first 114 [a0, a1, a2, a3, a4, a5, a6] st mem := ke_icmp_ne dX5_first_98 rfl
theorem eX5_first_101 : ev X m_X5_first 101 [a0, a1, vI x, a3, a4, a5, a6] st mem = ev X m_X5_first 102 [a0, a1, vI x, a3, a4, a5, a6] (vI x :: st) mem := ke_iload_n rfl dX5_first_101
theorem eX5_first_102 : ev X m_X5_first 102 [a0, a1, a2, a3, a4, a5, a6] (vI x :: st) mem = if x < 0 then ev X m_X5_first 105 [a0, a1, a2, a3, a4, a5, a6] st mem else ev X m_X5_first 110 [a0, a1, a2, a3, a4, a5, a6] st mem := ke_if_ge dX5_first_102 rfl
theorem eX5_first_105 : ev X m_X5_first 105 [a0, a1, a2, a3, a4, a5, a6] st mem = ev X m_X5_first 107 [a0, a1, a2, a3, a4, a5, a6] (vI (-9) :: st) mem := ke_bipush (by decide) dX5_first_105
theorem eX5_first_107 : ev X m_X5_first 107 [a0, a1, a2, a3, a4, a5, a6] st mem = ev X m_X5_first 129 [a0, a1, a2, a3, a4, a5, a6] st mem := ke_goto dX5_first_107 rfl
theorem eX5_first_110 : ev X m_X5_first 110 [a0, a1, a2, vI x, a4, a5, a6] st mem = ev X m_X5_first 111 [a0, a1, a2, vI x, a4, a5, a6] (vI x :: st) mem := ke_iload_n rfl dX5_first_110
theorem eX5_first_111 : ev X m_X5_first 111 [a0, a1, a2, a3, a4, a5, a6] st mem = ev X m_X5_first 129 [a0, a1, a2, a3, a4, a5, a6] st mem := ke_goto dX5_first_111 rfl
theorem eX5_first_114 : ev X m_X5_first 114 [a0, a1, a2, a3, vI x, a5, a6] st mem = ev X m_X5_first 116 [a0, a1, a2, a3, vI x, a5, a6] (vI x :: st) mem := ke_iload rfl dX5_first_114
theorem eX5_first_116 : ev X m_X5_first 116 [a0, a1, a2, a3, a4, a5, a6] st mem = ev X m_X5_first 119 [a0, a1, a2, a3, a4, a5, a6] (vI 1000 :: st) mem := ke_sipush (by decide) dX5_first_116
theorem eX5_first_119 : ev X m_X5_first 119 [a0, a1, a2, a3, a4, a5, a6] (vI y :: vI x :: st) mem = if x = y then ev X m_X5_first 122 [a0, a1, a2, a3, a4, a5, a6] st mem else ev X m_X5_first 127 [a0, a1, a2, a3, a4, a5, a6] st mem := ke_icmp_ne dX5_first_119 rfl
theorem eX5_first_122 : ev X m_X5_first 122 [a0, a1, a2, a3, a4, a5, a6] st mem = ev X m_X5_first 124 [a0, a1, a2, a3, a4, a5, a6] (vI (-9) :: st) mem := ke_bipush (by decide) dX5_first_122
theorem eX5_first_124 : ev X m_X5_first 124 [a0, a1, a2, a3, a4, a5, a6] st mem = ev X m_X5_first 129 [a0, a1, a2, a3, a4, a5, a6] st mem := ke_goto dX5_first_124 rfl
theorem eX5_first_127 : ev X m_X5_first 127 [a0, a1, a2, a3, vI x, a5, a6] st mem = ev X m_X5_first 129 [a0, a1, a2, a3, vI x, a5, a6] (vI x :: st) mem := ke_iload rfl dX5_first_127
theorem eX5_first_129 : ev X m_X5_first 129 [a0, a1, a2, a3, a4, a5, a6] [vI x] mem = some (some (vI x), mem) := ke_ireturn dX5_first_129 rfl
theorem eX5_lateOf_0 : ev X m_X5_lateOf 0 [vR r, a1, a2] st mem = ev X m_X5_lateOf 1 [vR r, a1, a2] (vR r :: st) mem := ke_aload_n rfl dX5_lateOf_0
theorem eX5_lateOf_1 : ev X m_X5_lateOf 1 [a0, vI x, a2] st mem = ev X m_X5_lateOf 2 [a0, vI x, a2] (vI x :: st) mem := ke_iload_n rfl dX5_lateOf_1
theorem eX5_lateOf_2 : ev X m_X5_lateOf 2 [a0, a1, a2] (vI n0 :: vR r :: []) mem = evc X (gR mem r 5 (ev X m_X5_whenOf 0 [vR r, vI n0, vS, vS] [] mem)) m_X5_lateOf 5 [a0, a1, a2] [] := ke_callV (m' := m_X5_whenOf) (as := [vI n0]) (n := 1) (rest := []) dX5_lateOf_2 rfl rfl rfl rfl rfl rfl (Nat.le_of_ble_eq_true rfl) (Nat.le_of_ble_eq_true rfl) (Nat.le_of_ble_eq_true rfl) rfl
theorem eX5_lateOf_5 : ev X m_X5_lateOf 5 [a0, a1, a2] (vI x :: st) mem = ev X m_X5_lateOf 6 [a0, a1, vI x] st mem := ke_istore_n (Nat.le_of_ble_eq_true rfl) rfl dX5_lateOf_5
theorem eX5_lateOf_6 : ev X m_X5_lateOf 6 [a0, a1, vI x] st mem = ev X m_X5_lateOf 7 [a0, a1, vI x] (vI x :: st) mem := ke_iload_n rfl dX5_lateOf_6
theorem eX5_lateOf_7 : ev X m_X5_lateOf 7 [a0, a1, a2] (vI x :: st) mem = if x < 0 then ev X m_X5_lateOf 10 [a0, a1, a2] st mem else ev X m_X5_lateOf 16 [a0, a1, a2] st mem := ke_if_ge dX5_lateOf_7 rfl
theorem eX5_lateOf_10 : ev X m_X5_lateOf 10 [a0, a1, a2] st mem = ev X m_X5_lateOf 13 [a0, a1, a2] (vI 1000 :: st) mem := ke_sipush (by decide) dX5_lateOf_10
theorem eX5_lateOf_13 : ev X m_X5_lateOf 13 [a0, a1, a2] st mem = ev X m_X5_lateOf 17 [a0, a1, a2] st mem := ke_goto dX5_lateOf_13 rfl
theorem eX5_lateOf_16 : ev X m_X5_lateOf 16 [a0, a1, vI x] st mem = ev X m_X5_lateOf 17 [a0, a1, vI x] (vI x :: st) mem := ke_iload_n rfl dX5_lateOf_16
theorem eX5_lateOf_17 : ev X m_X5_lateOf 17 [a0, a1, a2] [vI x] mem = some (some (vI x), mem) := ke_ireturn dX5_lateOf_17 rfl
theorem eX5_enemy_0 : ev X m_X5_enemy 0 [vR r, a1, a2, a3, a4] st mem = ev X m_X5_enemy 1 [vR r, a1, a2, a3, a4] (vR r :: st) mem := ke_aload_n rfl dX5_enemy_0
theorem eX5_enemy_1 : ev X m_X5_enemy 1 [a0, vI x, a2, a3, a4] st mem = ev X m_X5_enemy 2 [a0, vI x, a2, a3, a4] (vI x :: st) mem := ke_iload_n rfl dX5_enemy_1
theorem eX5_enemy_2 : ev X m_X5_enemy 2 [a0, a1, a2, a3, a4] (vI n0 :: vR r :: []) mem = evc X (gR mem r 5 (ev X m_X5_isOne 0 [vR r, vI n0] [] mem)) m_X5_enemy 5 [a0, a1, a2, a3, a4] [] := ke_callV (m' := m_X5_isOne) (as := [vI n0]) (n := 1) (rest := []) dX5_enemy_2 rfl rfl rfl rfl rfl rfl (Nat.le_of_ble_eq_true rfl) (Nat.le_of_ble_eq_true rfl) (Nat.le_of_ble_eq_true rfl) rfl
theorem eX5_enemy_5 : ev X m_X5_enemy 5 [a0, a1, a2, a3, a4] (vI x :: st) mem = if x = 0 then ev X m_X5_enemy 8 [a0, a1, a2, a3, a4] st mem else ev X m_X5_enemy 12 [a0, a1, a2, a3, a4] st mem := ke_if_ne dX5_enemy_5 rfl
theorem eX5_enemy_8 : ev X m_X5_enemy 8 [a0, a1, a2, a3, a4] st mem = ev X m_X5_enemy 9 [a0, a1, a2, a3, a4] (vI (-1) :: st) mem := ke_iconst (by decide) dX5_enemy_8
theorem eX5_enemy_9 : ev X m_X5_enemy 9 [a0, a1, a2, a3, a4] st mem = ev X m_X5_enemy 27 [a0, a1, a2, a3, a4] st mem := ke_goto dX5_enemy_9 rfl
theorem eX5_enemy_12 : ev X m_X5_enemy 12 [a0, a1, vI x, a3, a4] st mem = ev X m_X5_enemy 13 [a0, a1, vI x, a3, a4] (vI x :: st) mem := ke_iload_n rfl dX5_enemy_12
theorem eX5_enemy_13 : ev X m_X5_enemy 13 [a0, a1, a2, a3, a4] st mem = ev X m_X5_enemy 14 [a0, a1, a2, a3, a4] (vI 0 :: st) mem := ke_iconst (by decide) dX5_enemy_13
theorem eX5_enemy_14 : ev X m_X5_enemy 14 [a0, a1, a2, a3, a4] st mem = ev X m_X5_enemy 15 [a0, a1, a2, a3, a4] (vI 1 :: st) mem := ke_iconst (by decide) dX5_enemy_14
theorem eX5_enemy_15 : ev X m_X5_enemy 15 [a0, a1, a2, a3, a4] (vI n2 :: vI n1 :: vI n0 :: []) mem = evc X (ev X m_X5_isIn 0 [vI n0, vI n1, vI n2] [] mem) m_X5_enemy 18 [a0, a1, a2, a3, a4] [] := ke_callS (m' := m_X5_isIn) (as := [vI n0, vI n1, vI n2]) (n := 3) (rest := []) dX5_enemy_15 rfl (by decide) rfl rfl rfl rfl rfl (Nat.le_of_ble_eq_true rfl) (Nat.le_of_ble_eq_true rfl) rfl
theorem eX5_enemy_18 : ev X m_X5_enemy 18 [a0, a1, a2, a3, a4] (vI x :: st) mem = if x = 0 then ev X m_X5_enemy 21 [a0, a1, a2, a3, a4] st mem else ev X m_X5_enemy 26 [a0, a1, a2, a3, a4] st mem := ke_if_ne dX5_enemy_18 rfl
theorem eX5_enemy_21 : ev X m_X5_enemy 21 [a0, a1, a2, a3, a4] st mem = ev X m_X5_enemy 23 [a0, a1, a2, a3, a4] (vI (-2) :: st) mem := ke_bipush (by decide) dX5_enemy_21
theorem eX5_enemy_23 : ev X m_X5_enemy 23 [a0, a1, a2, a3, a4] st mem = ev X m_X5_enemy 27 [a0, a1, a2, a3, a4] st mem := ke_goto dX5_enemy_23 rfl
theorem eX5_enemy_26 : ev X m_X5_enemy 26 [a0, a1, a2, a3, a4] st mem = ev X m_X5_enemy 27 [a0, a1, a2, a3, a4] (vI 0 :: st) mem := ke_iconst (by decide) dX5_enemy_26
theorem eX5_enemy_27 : ev X m_X5_enemy 27 [a0, a1, a2, a3, a4] (vI x :: st) mem = ev X m_X5_enemy 28 [a0, a1, a2, vI x, a4] st mem := ke_istore_n (Nat.le_of_ble_eq_true rfl) rfl dX5_enemy_27
theorem eX5_enemy_28 : ev X m_X5_enemy 28 [a0, a1, a2, vI x, a4] st mem = ev X m_X5_enemy 29 [a0, a1, a2, vI x, a4] (vI x :: st) mem := ke_iload_n rfl dX5_enemy_28
theorem eX5_enemy_29 : ev X m_X5_enemy 29 [a0, a1, a2, a3, a4] (vI x :: st) mem = if x = 0 then ev X m_X5_enemy 38 [a0, a1, a2, a3, a4] st mem else ev X m_X5_enemy 32 [a0, a1, a2, a3, a4] st mem := ke_if_eq dX5_enemy_29 rfl
theorem eX5_enemy_32 : ev X m_X5_enemy 32 [vR r, a1, a2, a3, a4] st mem = ev X m_X5_enemy 33 [vR r, a1, a2, a3, a4] (vR r :: st) mem := ke_aload_n rfl dX5_enemy_32
theorem eX5_enemy_33 : ev X m_X5_enemy 33 [a0, a1, a2, vI x, a4] st mem = ev X m_X5_enemy 34 [a0, a1, a2, vI x, a4] (vI x :: st) mem := ke_iload_n rfl dX5_enemy_33
theorem eX5_enemy_34 : ev X m_X5_enemy 34 [a0, a1, a2, a3, a4] (vI n0 :: vR r :: []) mem = evc X (gR mem r 5 (ev X m_X5_no 0 [vR r, vI n0] [] mem)) m_X5_enemy 37 [a0, a1, a2, a3, a4] [] := ke_callV (m' := m_X5_no) (as := [vI n0]) (n := 1) (rest := []) dX5_enemy_34 rfl rfl rfl rfl rfl rfl (Nat.le_of_ble_eq_true rfl) (Nat.le_of_ble_eq_true rfl) (Nat.le_of_ble_eq_true rfl) rfl
theorem eX5_enemy_37 : ev X m_X5_enemy 37 [a0, a1, a2, a3, a4] [vI x] mem = some (some (vI x), mem) := ke_ireturn dX5_enemy_37 rfl
theorem eX5_enemy_38 : ev X m_X5_enemy 38 [vR r, a1, a2, a3, a4] st mem = ev X m_X5_enemy 39 [vR r, a1, a2, a3, a4] (vR r :: st) mem := ke_aload_n rfl dX5_enemy_38
theorem eX5_enemy_39 : ev X m_X5_enemy 39 [a0, vI x, a2, a3, a4] st mem = ev X m_X5_enemy 40 [a0, vI x, a2, a3, a4] (vI x :: st) mem := ke_iload_n rfl dX5_enemy_39
theorem eX5_enemy_40 : ev X m_X5_enemy 40 [a0, a1, a2, a3, a4] (vI n0 :: vR r :: []) mem = evc X (gR mem r 5 (ev X m_X5_enemyOf 0 [vR r, vI n0] [] mem)) m_X5_enemy 43 [a0, a1, a2, a3, a4] [] := ke_callV (m' := m_X5_enemyOf) (as := [vI n0]) (n := 1) (rest := []) dX5_enemy_40 rfl rfl rfl rfl rfl rfl (Nat.le_of_ble_eq_true rfl) (Nat.le_of_ble_eq_true rfl) (Nat.le_of_ble_eq_true rfl) rfl
theorem eX5_enemy_43 : ev X m_X5_enemy 43 [a0, a1, a2, a3, a4] (vI x :: st) mem = ev X m_X5_enemy 45 [a0, a1, a2, a3, vI x] st mem := ke_istore (Nat.le_of_ble_eq_true rfl) rfl dX5_enemy_43
theorem eX5_enemy_45 : ev X m_X5_enemy 45 [a0, a1, vI x, a3, a4] st mem = ev X m_X5_enemy 46 [a0, a1, vI x, a3, a4] (vI x :: st) mem := ke_iload_n rfl dX5_enemy_45
theorem eX5_enemy_46 : ev X m_X5_enemy 46 [a0, a1, a2, a3, a4] (vI x :: st) mem = if x = 0 then ev X m_X5_enemy 54 [a0, a1, a2, a3, a4] st mem else ev X m_X5_enemy 49 [a0, a1, a2, a3, a4] st mem := ke_if_eq dX5_enemy_46 rfl
theorem eX5_enemy_49 : ev X m_X5_enemy 49 [a0, a1, a2, a3, vI x] st mem = ev X m_X5_enemy 51 [a0, a1, a2, a3, vI x] (vI x :: st) mem := ke_iload rfl dX5_enemy_49
theorem eX5_enemy_51 : ev X m_X5_enemy 51 [a0, a1, a2, a3, a4] (vI x :: st) mem = if x < 0 then ev X m_X5_enemy 54 [a0, a1, a2, a3, a4] st mem else ev X m_X5_enemy 59 [a0, a1, a2, a3, a4] st mem := ke_if_ge dX5_enemy_51 rfl
theorem eX5_enemy_54 : ev X m_X5_enemy 54 [a0, a1, a2, a3, vI x] st mem = ev X m_X5_enemy 56 [a0, a1, a2, a3, vI x] (vI x :: st) mem := ke_iload rfl dX5_enemy_54
theorem eX5_enemy_56 : ev X m_X5_enemy 56 [a0, a1, a2, a3, a4] st mem = ev X m_X5_enemy 66 [a0, a1, a2, a3, a4] st mem := ke_goto dX5_enemy_56 rfl
theorem eX5_enemy_59 : ev X m_X5_enemy 59 [vR r, a1, a2, a3, a4] st mem = ev X m_X5_enemy 60 [vR r, a1, a2, a3, a4] (vR r :: st) mem := ke_aload_n rfl dX5_enemy_59
theorem eX5_enemy_60 : ev X m_X5_enemy 60 [a0, vI x, a2, a3, a4] st mem = ev X m_X5_enemy 61 [a0, vI x, a2, a3, a4] (vI x :: st) mem := ke_iload_n rfl dX5_enemy_60
theorem eX5_enemy_61 : ev X m_X5_enemy 61 [a0, a1, a2, a3, vI x] st mem = ev X m_X5_enemy 63 [a0, a1, a2, a3, vI x] (vI x :: st) mem := ke_iload rfl dX5_enemy_61
theorem eX5_enemy_63 : ev X m_X5_enemy 63 [a0, a1, a2, a3, a4] (vI n1 :: vI n0 :: vR r :: []) mem = evc X (gR mem r 5 (ev X m_X5_enemyBut 0 [vR r, vI n0, vI n1, vS, vS] [] mem)) m_X5_enemy 66 [a0, a1, a2, a3, a4] [] := ke_callV (m' := m_X5_enemyBut) (as := [vI n0, vI n1]) (n := 2) (rest := []) dX5_enemy_63 rfl rfl rfl rfl rfl rfl (Nat.le_of_ble_eq_true rfl) (Nat.le_of_ble_eq_true rfl) (Nat.le_of_ble_eq_true rfl) rfl
theorem eX5_enemy_66 : ev X m_X5_enemy 66 [a0, a1, a2, a3, a4] [vI x] mem = some (some (vI x), mem) := ke_ireturn dX5_enemy_66 rfl
theorem eX5_malice_0 : ev X m_X5_malice 0 [vR r, a1, a2] st mem = ev X m_X5_malice 1 [vR r, a1, a2] (vR r :: st) mem := ke_aload_n rfl dX5_malice_0
theorem eX5_malice_1 : ev X m_X5_malice 1 [a0, vI x, a2] st mem = ev X m_X5_malice 2 [a0, vI x, a2] (vI x :: st) mem := ke_iload_n rfl dX5_malice_1
theorem eX5_malice_2 : ev X m_X5_malice 2 [a0, a1, vI x] st mem = ev X m_X5_malice 3 [a0, a1, vI x] (vI x :: st) mem := ke_iload_n rfl dX5_malice_2
theorem eX5_malice_3 : ev X m_X5_malice 3 [a0, a1, a2] (vI n1 :: vI n0 :: vR r :: []) mem = evc X (gR mem r 5 (ev X m_X5_areTwo 0 [vR r, vI n0, vI n1] [] mem)) m_X5_malice 6 [a0, a1, a2] [] := ke_callV (m' := m_X5_areTwo) (as := [vI n0, vI n1]) (n := 2) (rest := []) dX5_malice_3 rfl rfl rfl rfl rfl rfl (Nat.le_of_ble_eq_true rfl) (Nat.le_of_ble_eq_true rfl) (Nat.le_of_ble_eq_true rfl) rfl
theorem eX5_malice_6 : ev X m_X5_malice 6 [a0, a1, a2] (vI x :: st) mem = if x = 0 then ev X m_X5_malice 18 [a0, a1, a2] st mem else ev X m_X5_malice 9 [a0, a1, a2] st mem := ke_if_eq dX5_malice_6 rfl
theorem eX5_malice_9 : ev X m_X5_malice 9 [vR r, a1, a2] st mem = ev X m_X5_malice 10 [vR r, a1, a2] (vR r :: st) mem := ke_aload_n rfl dX5_malice_9
theorem eX5_malice_10 : ev X m_X5_malice 10 [a0, vI x, a2] st mem = ev X m_X5_malice 11 [a0, vI x, a2] (vI x :: st) mem := ke_iload_n rfl dX5_malice_10
theorem eX5_malice_11 : ev X m_X5_malice 11 [a0, a1, vI x] st mem = ev X m_X5_malice 12 [a0, a1, vI x] (vI x :: st) mem := ke_iload_n rfl dX5_malice_11
theorem eX5_malice_12 : ev X m_X5_malice 12 [a0, a1, a2] (vI n1 :: vI n0 :: vR r :: []) mem = evc X (gR mem r 5 (ev X m_X5_maliceOf 0 [vR r, vI n0, vI n1, vS, vS] [] mem)) m_X5_malice 15 [a0, a1, a2] [] := ke_callV (m' := m_X5_maliceOf) (as := [vI n0, vI n1]) (n := 2) (rest := []) dX5_malice_12 rfl rfl rfl rfl rfl rfl (Nat.le_of_ble_eq_true rfl) (Nat.le_of_ble_eq_true rfl) (Nat.le_of_ble_eq_true rfl) rfl
theorem eX5_malice_15 : ev X m_X5_malice 15 [a0, a1, a2] st mem = ev X m_X5_malice 23 [a0, a1, a2] st mem := ke_goto dX5_malice_15 rfl
theorem eX5_malice_18 : ev X m_X5_malice 18 [vR r, a1, a2] st mem = ev X m_X5_malice 19 [vR r, a1, a2] (vR r :: st) mem := ke_aload_n rfl dX5_malice_18
theorem eX5_malice_19 : ev X m_X5_malice 19 [a0, a1, a2] st mem = ev X m_X5_malice 20 [a0, a1, a2] (vI (-1) :: st) mem := ke_iconst (by decide) dX5_malice_19
theorem eX5_malice_20 : ev X m_X5_malice 20 [a0, a1, a2] (vI n0 :: vR r :: []) mem = evc X (gR mem r 5 (ev X m_X5_no 0 [vR r, vI n0] [] mem)) m_X5_malice 23 [a0, a1, a2] [] := ke_callV (m' := m_X5_no) (as := [vI n0]) (n := 1) (rest := []) dX5_malice_20 rfl rfl rfl rfl rfl rfl (Nat.le_of_ble_eq_true rfl) (Nat.le_of_ble_eq_true rfl) (Nat.le_of_ble_eq_true rfl) rfl
theorem eX5_malice_23 : ev X m_X5_malice 23 [a0, a1, a2] [vI x] mem = some (some (vI x), mem) := ke_ireturn dX5_malice_23 rfl
theorem eX5_loved_0 : ev X m_X5_loved 0 [a0, a1, a2] st mem = ev X m_X5_loved 1 [a0, a1, a2] (vI 0 :: st) mem := ke_iconst (by decide) dX5_loved_0
theorem eX5_loved_1 : ev X m_X5_loved 1 [a0, a1, a2] (vI x :: st) mem = ev X m_X5_loved 2 [a0, vI x, a2] st mem := ke_istore_n (Nat.le_of_ble_eq_true rfl) rfl dX5_loved_1
theorem eX5_loved_2 : ev X m_X5_loved 2 [a0, a1, a2] st mem = ev X m_X5_loved 3 [a0, a1, a2] (vI 0 :: st) mem := ke_iconst (by decide) dX5_loved_2
theorem eX5_loved_3 : ev X m_X5_loved 3 [a0, a1, a2] (vI x :: st) mem = ev X m_X5_loved 4 [a0, a1, vI x] st mem := ke_istore_n (Nat.le_of_ble_eq_true rfl) rfl dX5_loved_3
theorem eX5_loved_4 : ev X m_X5_loved 4 [a0, a1, vI x] st mem = ev X m_X5_loved 5 [a0, a1, vI x] (vI x :: st) mem := ke_iload_n rfl dX5_loved_4
theorem eX5_loved_5 : ev X m_X5_loved 5 [vR r, a1, a2] st mem = ev X m_X5_loved 6 [vR r, a1, a2] (vR r :: st) mem := ke_aload_n rfl dX5_loved_5
theorem eX5_loved_6 : ev X m_X5_loved 6 [a0, a1, a2] (vR r :: st) mem = evb X (fget mem r 5 11) m_X5_loved 9 [a0, a1, a2] st mem := ke_getf rfl dX5_loved_6
theorem eX5_loved_9 : ev X m_X5_loved 9 [a0, a1, a2] (vI y :: vI x :: st) mem = if x < y then ev X m_X5_loved 12 [a0, a1, a2] st mem else ev X m_X5_loved 36 [a0, a1, a2] st mem := ke_icmp_ge dX5_loved_9 rfl
theorem eX5_loved_12 : ev X m_X5_loved 12 [a0, vI x, a2] st mem = ev X m_X5_loved 13 [a0, vI x, a2] (vI x :: st) mem := ke_iload_n rfl dX5_loved_12
theorem eX5_loved_13 : ev X m_X5_loved 13 [vR r, a1, a2] st mem = ev X m_X5_loved 14 [vR r, a1, a2] (vR r :: st) mem := ke_aload_n rfl dX5_loved_13
theorem eX5_loved_14 : ev X m_X5_loved 14 [a0, a1, vI x] st mem = ev X m_X5_loved 15 [a0, a1, vI x] (vI x :: st) mem := ke_iload_n rfl dX5_loved_14
theorem eX5_loved_15 : ev X m_X5_loved 15 [a0, a1, a2] (vI n0 :: vR r :: [s0]) mem = evc X (gR mem r 5 (ev X m_X5_enemyOf 0 [vR r, vI n0] [] mem)) m_X5_loved 18 [a0, a1, a2] [s0] := ke_callV (m' := m_X5_enemyOf) (as := [vI n0]) (n := 1) (rest := [s0]) dX5_loved_15 rfl rfl rfl rfl rfl rfl (Nat.le_of_ble_eq_true rfl) (Nat.le_of_ble_eq_true rfl) (Nat.le_of_ble_eq_true rfl) rfl
theorem eX5_loved_18 : ev X m_X5_loved 18 [a0, a1, a2] (vI x :: st) mem = if x < 0 then ev X m_X5_loved 21 [a0, a1, a2] st mem else ev X m_X5_loved 27 [a0, a1, a2] st mem := ke_if_ge dX5_loved_18 rfl
theorem eX5_loved_21 : ev X m_X5_loved 21 [a0, a1, a2] st mem = ev X m_X5_loved 22 [a0, a1, a2] (vI 1 :: st) mem := ke_iconst (by decide) dX5_loved_21
theorem eX5_loved_22 : ev X m_X5_loved 22 [a0, a1, vI x] st mem = ev X m_X5_loved 23 [a0, a1, vI x] (vI x :: st) mem := ke_iload_n rfl dX5_loved_22
theorem eX5_loved_23 : ev X m_X5_loved 23 [a0, a1, a2] (vI y :: vI x :: st) mem = ev X m_X5_loved 24 [a0, a1, a2] (vI (shl32 x y) :: st) mem := ke_ishl dX5_loved_23
theorem eX5_loved_24 : ev X m_X5_loved 24 [a0, a1, a2] st mem = ev X m_X5_loved 28 [a0, a1, a2] st mem := ke_goto dX5_loved_24 rfl
theorem eX5_loved_27 : ev X m_X5_loved 27 [a0, a1, a2] st mem = ev X m_X5_loved 28 [a0, a1, a2] (vI 0 :: st) mem := ke_iconst (by decide) dX5_loved_27
theorem eX5_loved_28 : ev X m_X5_loved 28 [a0, a1, a2] (vI y :: vI x :: st) mem = ev X m_X5_loved 29 [a0, a1, a2] (vI (or32 x y) :: st) mem := ke_ior dX5_loved_28
theorem eX5_loved_29 : ev X m_X5_loved 29 [a0, a1, a2] (vI x :: st) mem = ev X m_X5_loved 30 [a0, vI x, a2] st mem := ke_istore_n (Nat.le_of_ble_eq_true rfl) rfl dX5_loved_29
theorem eX5_loved_30 : ev X m_X5_loved 30 [a0, a1, vI x] st mem = ev X m_X5_loved 33 [a0, a1, vI (w32 (x + 1))] st mem := ke_iinc rfl (Nat.le_of_ble_eq_true rfl) rfl dX5_loved_30
theorem eX5_loved_33 : ev X m_X5_loved 33 [a0, a1, a2] st mem = ev X m_X5_loved 4 [a0, a1, a2] st mem := ke_goto dX5_loved_33 rfl
theorem eX5_loved_36 : ev X m_X5_loved 36 [a0, vI x, a2] st mem = ev X m_X5_loved 37 [a0, vI x, a2] (vI x :: st) mem := ke_iload_n rfl dX5_loved_36
theorem eX5_loved_37 : ev X m_X5_loved 37 [a0, a1, a2] [vI x] mem = some (some (vI x), mem) := ke_ireturn dX5_loved_37 rfl
theorem eX5_busiest_0 : ev X m_X5_busiest 0 [a0, vI x, a2, a3, a4] st mem = ev X m_X5_busiest 1 [a0, vI x, a2, a3, a4] (vI x :: st) mem := ke_iload_n rfl dX5_busiest_0
theorem eX5_busiest_1 : ev X m_X5_busiest 1 [a0, a1, a2, a3, a4] st mem = ev X m_X5_busiest 2 [a0, a1, a2, a3, a4] (vI 0 :: st) mem := ke_iconst (by decide) dX5_busiest_1
theorem eX5_busiest_2 : ev X m_X5_busiest 2 [a0, a1, a2, a3, a4] st mem = ev X m_X5_busiest 3 [a0, a1, a2, a3, a4] (vI 1 :: st) mem := ke_iconst (by decide) dX5_busiest_2
theorem eX5_busiest_3 : ev X m_X5_busiest 3 [a0, a1, a2, a3, a4] (vI n2 :: vI n1 :: vI n0 :: []) mem = evc X (ev X m_X5_isIn 0 [vI n0, vI n1, vI n2] [] mem) m_X5_busiest 6 [a0, a1, a2, a3, a4] [] := ke_callS (m' := m_X5_isIn) (as := [vI n0, vI n1, vI n2]) (n := 3) (rest := []) dX5_busiest_3 rfl (by decide) rfl rfl rfl rfl rfl (Nat.le_of_ble_eq_true rfl) (Nat.le_of_ble_eq_true rfl) rfl
theorem eX5_busiest_6 : ev X m_X5_busiest 6 [a0, a1, a2, a3, a4] (vI x :: st) mem = if x = 0 then ev X m_X5_busiest 9 [a0, a1, a2, a3, a4] st mem else ev X m_X5_busiest 16 [a0, a1, a2, a3, a4] st mem := ke_if_ne dX5_busiest_6 rfl
theorem eX5_busiest_9 : ev X m_X5_busiest 9 [vR r, a1, a2, a3, a4] st mem = ev X m_X5_busiest 10 [vR r, a1, a2, a3, a4] (vR r :: st) mem := ke_aload_n rfl dX5_busiest_9
theorem eX5_busiest_10 : ev X m_X5_busiest 10 [a0, a1, a2, a3, a4] st mem = ev X m_X5_busiest 12 [a0, a1, a2, a3, a4] (vI (-2) :: st) mem := ke_bipush (by decide) dX5_busiest_10
theorem eX5_busiest_12 : ev X m_X5_busiest 12 [a0, a1, a2, a3, a4] (vI n0 :: vR r :: []) mem = evc X (gR mem r 5 (ev X m_X5_no 0 [vR r, vI n0] [] mem)) m_X5_busiest 15 [a0, a1, a2, a3, a4] [] := ke_callV (m' := m_X5_no) (as := [vI n0]) (n := 1) (rest := []) dX5_busiest_12 rfl rfl rfl rfl rfl rfl (Nat.le_of_ble_eq_true rfl) (Nat.le_of_ble_eq_true rfl) (Nat.le_of_ble_eq_true rfl) rfl
theorem eX5_busiest_15 : ev X m_X5_busiest 15 [a0, a1, a2, a3, a4] [vI x] mem = some (some (vI x), mem) := ke_ireturn dX5_busiest_15 rfl
theorem eX5_busiest_16 : ev X m_X5_busiest 16 [a0, a1, a2, a3, a4] st mem = ev X m_X5_busiest 18 [a0, a1, a2, a3, a4] (vI (-9) :: st) mem := ke_bipush (by decide) dX5_busiest_16
theorem eX5_busiest_18 : ev X m_X5_busiest 18 [a0, a1, a2, a3, a4] (vI x :: st) mem = ev X m_X5_busiest 19 [a0, a1, vI x, a3, a4] st mem := ke_istore_n (Nat.le_of_ble_eq_true rfl) rfl dX5_busiest_18
theorem eX5_busiest_19 : ev X m_X5_busiest 19 [a0, a1, a2, a3, a4] st mem = ev X m_X5_busiest 20 [a0, a1, a2, a3, a4] (vI 0 :: st) mem := ke_iconst (by decide) dX5_busiest_19
theorem eX5_busiest_20 : ev X m_X5_busiest 20 [a0, a1, a2, a3, a4] (vI x :: st) mem = ev X m_X5_busiest 21 [a0, a1, a2, vI x, a4] st mem := ke_istore_n (Nat.le_of_ble_eq_true rfl) rfl dX5_busiest_20
theorem eX5_busiest_21 : ev X m_X5_busiest 21 [a0, a1, a2, a3, a4] st mem = ev X m_X5_busiest 22 [a0, a1, a2, a3, a4] (vI 0 :: st) mem := ke_iconst (by decide) dX5_busiest_21
theorem eX5_busiest_22 : ev X m_X5_busiest 22 [a0, a1, a2, a3, a4] (vI x :: st) mem = ev X m_X5_busiest 24 [a0, a1, a2, a3, vI x] st mem := ke_istore (Nat.le_of_ble_eq_true rfl) rfl dX5_busiest_22
theorem eX5_busiest_24 : ev X m_X5_busiest 24 [a0, a1, a2, a3, vI x] st mem = ev X m_X5_busiest 26 [a0, a1, a2, a3, vI x] (vI x :: st) mem := ke_iload rfl dX5_busiest_24
theorem eX5_busiest_26 : ev X m_X5_busiest 26 [vR r, a1, a2, a3, a4] st mem = ev X m_X5_busiest 27 [vR r, a1, a2, a3, a4] (vR r :: st) mem := ke_aload_n rfl dX5_busiest_26
theorem eX5_busiest_27 : ev X m_X5_busiest 27 [a0, a1, a2, a3, a4] (vR r :: st) mem = evb X (fget mem r 5 11) m_X5_busiest 30 [a0, a1, a2, a3, a4] st mem := ke_getf rfl dX5_busiest_27
theorem eX5_busiest_30 : ev X m_X5_busiest 30 [a0, a1, a2, a3, a4] (vI y :: vI x :: st) mem = if x < y then ev X m_X5_busiest 33 [a0, a1, a2, a3, a4] st mem else ev X m_X5_busiest 62 [a0, a1, a2, a3, a4] st mem := ke_icmp_ge dX5_busiest_30 rfl
theorem eX5_busiest_33 : ev X m_X5_busiest 33 [vR r, a1, a2, a3, a4] st mem = ev X m_X5_busiest 34 [vR r, a1, a2, a3, a4] (vR r :: st) mem := ke_aload_n rfl dX5_busiest_33
theorem eX5_busiest_34 : ev X m_X5_busiest 34 [a0, a1, a2, a3, vI x] st mem = ev X m_X5_busiest 36 [a0, a1, a2, a3, vI x] (vI x :: st) mem := ke_iload rfl dX5_busiest_34
theorem eX5_busiest_36 : ev X m_X5_busiest 36 [a0, a1, a2, a3, a4] (vI n0 :: vR r :: []) mem = evc X (gR mem r 5 (ev X m_X5_enemyOfMany 0 [vR r, vI n0, vS, vS] [] mem)) m_X5_busiest 39 [a0, a1, a2, a3, a4] [] := ke_callV (m' := m_X5_enemyOfMany) (as := [vI n0]) (n := 1) (rest := []) dX5_busiest_36 rfl rfl rfl rfl rfl rfl (Nat.le_of_ble_eq_true rfl) (Nat.le_of_ble_eq_true rfl) (Nat.le_of_ble_eq_true rfl) rfl
theorem eX5_busiest_39 : ev X m_X5_busiest 39 [a0, a1, a2, vI x, a4] st mem = ev X m_X5_busiest 40 [a0, a1, a2, vI x, a4] (vI x :: st) mem := ke_iload_n rfl dX5_busiest_39
theorem eX5_busiest_40 : ev X m_X5_busiest 40 [a0, a1, a2, a3, a4] (vI y :: vI x :: st) mem = if y < x then ev X m_X5_busiest 46 [a0, a1, a2, a3, a4] st mem else ev X m_X5_busiest 43 [a0, a1, a2, a3, a4] st mem := ke_icmp_gt dX5_busiest_40 rfl
theorem eX5_busiest_43 : ev X m_X5_busiest 43 [a0, a1, a2, a3, a4] st mem = ev X m_X5_busiest 56 [a0, a1, a2, a3, a4] st mem := ke_goto dX5_busiest_43 rfl
theorem eX5_busiest_46 : ev X m_X5_busiest 46 [a0, a1, a2, a3, vI x] st mem = ev X m_X5_busiest 48 [a0, a1, a2, a3, vI x] (vI x :: st) mem := ke_iload rfl dX5_busiest_46
theorem eX5_busiest_48 : ev X m_X5_busiest 48 [a0, a1, a2, a3, a4] (vI x :: st) mem = ev X m_X5_busiest 49 [a0, a1, vI x, a3, a4] st mem := ke_istore_n (Nat.le_of_ble_eq_true rfl) rfl dX5_busiest_48
theorem eX5_busiest_49 : ev X m_X5_busiest 49 [vR r, a1, a2, a3, a4] st mem = ev X m_X5_busiest 50 [vR r, a1, a2, a3, a4] (vR r :: st) mem := ke_aload_n rfl dX5_busiest_49
theorem eX5_busiest_50 : ev X m_X5_busiest 50 [a0, a1, a2, a3, vI x] st mem = ev X m_X5_busiest 52 [a0, a1, a2, a3, vI x] (vI x :: st) mem := ke_iload rfl dX5_busiest_50
theorem eX5_busiest_52 : ev X m_X5_busiest 52 [a0, a1, a2, a3, a4] (vI n0 :: vR r :: []) mem = evc X (gR mem r 5 (ev X m_X5_enemyOfMany 0 [vR r, vI n0, vS, vS] [] mem)) m_X5_busiest 55 [a0, a1, a2, a3, a4] [] := ke_callV (m' := m_X5_enemyOfMany) (as := [vI n0]) (n := 1) (rest := []) dX5_busiest_52 rfl rfl rfl rfl rfl rfl (Nat.le_of_ble_eq_true rfl) (Nat.le_of_ble_eq_true rfl) (Nat.le_of_ble_eq_true rfl) rfl
theorem eX5_busiest_55 : ev X m_X5_busiest 55 [a0, a1, a2, a3, a4] (vI x :: st) mem = ev X m_X5_busiest 56 [a0, a1, a2, vI x, a4] st mem := ke_istore_n (Nat.le_of_ble_eq_true rfl) rfl dX5_busiest_55
theorem eX5_busiest_56 : ev X m_X5_busiest 56 [a0, a1, a2, a3, vI x] st mem = ev X m_X5_busiest 59 [a0, a1, a2, a3, vI (w32 (x + 1))] st mem := ke_iinc rfl (Nat.le_of_ble_eq_true rfl) rfl dX5_busiest_56
theorem eX5_busiest_59 : ev X m_X5_busiest 59 [a0, a1, a2, a3, a4] st mem = ev X m_X5_busiest 24 [a0, a1, a2, a3, a4] st mem := ke_goto dX5_busiest_59 rfl
theorem eX5_busiest_62 : ev X m_X5_busiest 62 [a0, vI x, a2, a3, a4] st mem = ev X m_X5_busiest 63 [a0, vI x, a2, a3, a4] (vI x :: st) mem := ke_iload_n rfl dX5_busiest_62
theorem eX5_busiest_63 : ev X m_X5_busiest 63 [a0, a1, a2, a3, a4] (vI x :: st) mem = if x = 0 then ev X m_X5_busiest 66 [a0, a1, a2, a3, a4] st mem else ev X m_X5_busiest 70 [a0, a1, a2, a3, a4] st mem := ke_if_ne dX5_busiest_63 rfl
theorem eX5_busiest_66 : ev X m_X5_busiest 66 [a0, a1, vI x, a3, a4] st mem = ev X m_X5_busiest 67 [a0, a1, vI x, a3, a4] (vI x :: st) mem := ke_iload_n rfl dX5_busiest_66
theorem eX5_busiest_67 : ev X m_X5_busiest 67 [a0, a1, a2, a3, a4] st mem = ev X m_X5_busiest 71 [a0, a1, a2, a3, a4] st mem := ke_goto dX5_busiest_67 rfl
theorem eX5_busiest_70 : ev X m_X5_busiest 70 [a0, a1, a2, vI x, a4] st mem = ev X m_X5_busiest 71 [a0, a1, a2, vI x, a4] (vI x :: st) mem := ke_iload_n rfl dX5_busiest_70
theorem eX5_busiest_71 : ev X m_X5_busiest 71 [a0, a1, a2, a3, a4] [vI x] mem = some (some (vI x), mem) := ke_ireturn dX5_busiest_71 rfl
theorem eX5_enemyOfMany_0 : ev X m_X5_enemyOfMany 0 [a0, a1, a2, a3] st mem = ev X m_X5_enemyOfMany 1 [a0, a1, a2, a3] (vI 0 :: st) mem := ke_iconst (by decide) dX5_enemyOfMany_0
theorem eX5_enemyOfMany_1 : ev X m_X5_enemyOfMany 1 [a0, a1, a2, a3] (vI x :: st) mem = ev X m_X5_enemyOfMany 2 [a0, a1, vI x, a3] st mem := ke_istore_n (Nat.le_of_ble_eq_true rfl) rfl dX5_enemyOfMany_1
theorem eX5_enemyOfMany_2 : ev X m_X5_enemyOfMany 2 [a0, a1, a2, a3] st mem = ev X m_X5_enemyOfMany 3 [a0, a1, a2, a3] (vI 0 :: st) mem := ke_iconst (by decide) dX5_enemyOfMany_2
theorem eX5_enemyOfMany_3 : ev X m_X5_enemyOfMany 3 [a0, a1, a2, a3] (vI x :: st) mem = ev X m_X5_enemyOfMany 4 [a0, a1, a2, vI x] st mem := ke_istore_n (Nat.le_of_ble_eq_true rfl) rfl dX5_enemyOfMany_3
theorem eX5_enemyOfMany_4 : ev X m_X5_enemyOfMany 4 [a0, a1, a2, vI x] st mem = ev X m_X5_enemyOfMany 5 [a0, a1, a2, vI x] (vI x :: st) mem := ke_iload_n rfl dX5_enemyOfMany_4
theorem eX5_enemyOfMany_5 : ev X m_X5_enemyOfMany 5 [vR r, a1, a2, a3] st mem = ev X m_X5_enemyOfMany 6 [vR r, a1, a2, a3] (vR r :: st) mem := ke_aload_n rfl dX5_enemyOfMany_5
theorem eX5_enemyOfMany_6 : ev X m_X5_enemyOfMany 6 [a0, a1, a2, a3] (vR r :: st) mem = evb X (fget mem r 5 11) m_X5_enemyOfMany 9 [a0, a1, a2, a3] st mem := ke_getf rfl dX5_enemyOfMany_6
theorem eX5_enemyOfMany_9 : ev X m_X5_enemyOfMany 9 [a0, a1, a2, a3] (vI y :: vI x :: st) mem = if x < y then ev X m_X5_enemyOfMany 12 [a0, a1, a2, a3] st mem else ev X m_X5_enemyOfMany 35 [a0, a1, a2, a3] st mem := ke_icmp_ge dX5_enemyOfMany_9 rfl
theorem eX5_enemyOfMany_12 : ev X m_X5_enemyOfMany 12 [a0, a1, vI x, a3] st mem = ev X m_X5_enemyOfMany 13 [a0, a1, vI x, a3] (vI x :: st) mem := ke_iload_n rfl dX5_enemyOfMany_12
theorem eX5_enemyOfMany_13 : ev X m_X5_enemyOfMany 13 [vR r, a1, a2, a3] st mem = ev X m_X5_enemyOfMany 14 [vR r, a1, a2, a3] (vR r :: st) mem := ke_aload_n rfl dX5_enemyOfMany_13
theorem eX5_enemyOfMany_14 : ev X m_X5_enemyOfMany 14 [a0, a1, a2, vI x] st mem = ev X m_X5_enemyOfMany 15 [a0, a1, a2, vI x] (vI x :: st) mem := ke_iload_n rfl dX5_enemyOfMany_14
theorem eX5_enemyOfMany_15 : ev X m_X5_enemyOfMany 15 [a0, a1, a2, a3] (vI n0 :: vR r :: [s0]) mem = evc X (gR mem r 5 (ev X m_X5_enemyOf 0 [vR r, vI n0] [] mem)) m_X5_enemyOfMany 18 [a0, a1, a2, a3] [s0] := ke_callV (m' := m_X5_enemyOf) (as := [vI n0]) (n := 1) (rest := [s0]) dX5_enemyOfMany_15 rfl rfl rfl rfl rfl rfl (Nat.le_of_ble_eq_true rfl) (Nat.le_of_ble_eq_true rfl) (Nat.le_of_ble_eq_true rfl) rfl
theorem eX5_enemyOfMany_18 : ev X m_X5_enemyOfMany 18 [a0, vI x, a2, a3] st mem = ev X m_X5_enemyOfMany 19 [a0, vI x, a2, a3] (vI x :: st) mem := ke_iload_n rfl dX5_enemyOfMany_18
theorem eX5_enemyOfMany_19 : ev X m_X5_enemyOfMany 19 [a0, a1, a2, a3] (vI y :: vI x :: st) mem = if x = y then ev X m_X5_enemyOfMany 22 [a0, a1, a2, a3] st mem else ev X m_X5_enemyOfMany 26 [a0, a1, a2, a3] st mem := ke_icmp_ne dX5_enemyOfMany_19 rfl
theorem eX5_enemyOfMany_22 : ev X m_X5_enemyOfMany 22 [a0, a1, a2, a3] st mem = ev X m_X5_enemyOfMany 23 [a0, a1, a2, a3] (vI 1 :: st) mem := ke_iconst (by decide) dX5_enemyOfMany_22
theorem eX5_enemyOfMany_23 : ev X m_X5_enemyOfMany 23 [a0, a1, a2, a3] st mem = ev X m_X5_enemyOfMany 27 [a0, a1, a2, a3] st mem := ke_goto dX5_enemyOfMany_23 rfl
theorem eX5_enemyOfMany_26 : ev X m_X5_enemyOfMany 26 [a0, a1, a2, a3] st mem = ev X m_X5_enemyOfMany 27 [a0, a1, a2, a3] (vI 0 :: st) mem := ke_iconst (by decide) dX5_enemyOfMany_26
theorem eX5_enemyOfMany_27 : ev X m_X5_enemyOfMany 27 [a0, a1, a2, a3] (vI y :: vI x :: st) mem = ev X m_X5_enemyOfMany 28 [a0, a1, a2, a3] (vI (w32 (x + y)) :: st) mem := ke_iadd dX5_enemyOfMany_27
theorem eX5_enemyOfMany_28 : ev X m_X5_enemyOfMany 28 [a0, a1, a2, a3] (vI x :: st) mem = ev X m_X5_enemyOfMany 29 [a0, a1, vI x, a3] st mem := ke_istore_n (Nat.le_of_ble_eq_true rfl) rfl dX5_enemyOfMany_28
theorem eX5_enemyOfMany_29 : ev X m_X5_enemyOfMany 29 [a0, a1, a2, vI x] st mem = ev X m_X5_enemyOfMany 32 [a0, a1, a2, vI (w32 (x + 1))] st mem := ke_iinc rfl (Nat.le_of_ble_eq_true rfl) rfl dX5_enemyOfMany_29
theorem eX5_enemyOfMany_32 : ev X m_X5_enemyOfMany 32 [a0, a1, a2, a3] st mem = ev X m_X5_enemyOfMany 4 [a0, a1, a2, a3] st mem := ke_goto dX5_enemyOfMany_32 rfl
theorem eX5_enemyOfMany_35 : ev X m_X5_enemyOfMany 35 [a0, a1, vI x, a3] st mem = ev X m_X5_enemyOfMany 36 [a0, a1, vI x, a3] (vI x :: st) mem := ke_iload_n rfl dX5_enemyOfMany_35
theorem eX5_enemyOfMany_36 : ev X m_X5_enemyOfMany 36 [a0, a1, a2, a3] [vI x] mem = some (some (vI x), mem) := ke_ireturn dX5_enemyOfMany_36 rfl
theorem eX5_ring_0 : ev X m_X5_ring 0 [vR r, a1, a2, a3, a4, a5] st mem = ev X m_X5_ring 1 [vR r, a1, a2, a3, a4, a5] (vR r :: st) mem := ke_aload_n rfl dX5_ring_0
theorem eX5_ring_1 : ev X m_X5_ring 1 [a0, vI x, a2, a3, a4, a5] st mem = ev X m_X5_ring 2 [a0, vI x, a2, a3, a4, a5] (vI x :: st) mem := ke_iload_n rfl dX5_ring_1
theorem eX5_ring_2 : ev X m_X5_ring 2 [a0, a1, a2, a3, a4, a5] (vI n0 :: vR r :: []) mem = evc X (gR mem r 5 (ev X m_X5_isOne 0 [vR r, vI n0] [] mem)) m_X5_ring 5 [a0, a1, a2, a3, a4, a5] [] := ke_callV (m' := m_X5_isOne) (as := [vI n0]) (n := 1) (rest := []) dX5_ring_2 rfl rfl rfl rfl rfl rfl (Nat.le_of_ble_eq_true rfl) (Nat.le_of_ble_eq_true rfl) (Nat.le_of_ble_eq_true rfl) rfl
theorem eX5_ring_5 : ev X m_X5_ring 5 [a0, a1, a2, a3, a4, a5] (vI x :: st) mem = if x = 0 then ev X m_X5_ring 8 [a0, a1, a2, a3, a4, a5] st mem else ev X m_X5_ring 12 [a0, a1, a2, a3, a4, a5] st mem := ke_if_ne dX5_ring_5 rfl
theorem eX5_ring_8 : ev X m_X5_ring 8 [a0, a1, a2, a3, a4, a5] st mem = ev X m_X5_ring 9 [a0, a1, a2, a3, a4, a5] (vI (-1) :: st) mem := ke_iconst (by decide) dX5_ring_8
theorem eX5_ring_9 : ev X m_X5_ring 9 [a0, a1, a2, a3, a4, a5] st mem = ev X m_X5_ring 27 [a0, a1, a2, a3, a4, a5] st mem := ke_goto dX5_ring_9 rfl
theorem eX5_ring_12 : ev X m_X5_ring 12 [a0, a1, vI x, a3, a4, a5] st mem = ev X m_X5_ring 13 [a0, a1, vI x, a3, a4, a5] (vI x :: st) mem := ke_iload_n rfl dX5_ring_12
theorem eX5_ring_13 : ev X m_X5_ring 13 [a0, a1, a2, a3, a4, a5] st mem = ev X m_X5_ring 14 [a0, a1, a2, a3, a4, a5] (vI 0 :: st) mem := ke_iconst (by decide) dX5_ring_13
theorem eX5_ring_14 : ev X m_X5_ring 14 [a0, a1, a2, a3, a4, a5] st mem = ev X m_X5_ring 15 [a0, a1, a2, a3, a4, a5] (vI 1 :: st) mem := ke_iconst (by decide) dX5_ring_14
theorem eX5_ring_15 : ev X m_X5_ring 15 [a0, a1, a2, a3, a4, a5] (vI n2 :: vI n1 :: vI n0 :: []) mem = evc X (ev X m_X5_isIn 0 [vI n0, vI n1, vI n2] [] mem) m_X5_ring 18 [a0, a1, a2, a3, a4, a5] [] := ke_callS (m' := m_X5_isIn) (as := [vI n0, vI n1, vI n2]) (n := 3) (rest := []) dX5_ring_15 rfl (by decide) rfl rfl rfl rfl rfl (Nat.le_of_ble_eq_true rfl) (Nat.le_of_ble_eq_true rfl) rfl
theorem eX5_ring_18 : ev X m_X5_ring 18 [a0, a1, a2, a3, a4, a5] (vI x :: st) mem = if x = 0 then ev X m_X5_ring 21 [a0, a1, a2, a3, a4, a5] st mem else ev X m_X5_ring 26 [a0, a1, a2, a3, a4, a5] st mem := ke_if_ne dX5_ring_18 rfl
theorem eX5_ring_21 : ev X m_X5_ring 21 [a0, a1, a2, a3, a4, a5] st mem = ev X m_X5_ring 23 [a0, a1, a2, a3, a4, a5] (vI (-2) :: st) mem := ke_bipush (by decide) dX5_ring_21
theorem eX5_ring_23 : ev X m_X5_ring 23 [a0, a1, a2, a3, a4, a5] st mem = ev X m_X5_ring 27 [a0, a1, a2, a3, a4, a5] st mem := ke_goto dX5_ring_23 rfl
theorem eX5_ring_26 : ev X m_X5_ring 26 [a0, a1, a2, a3, a4, a5] st mem = ev X m_X5_ring 27 [a0, a1, a2, a3, a4, a5] (vI 0 :: st) mem := ke_iconst (by decide) dX5_ring_26
theorem eX5_ring_27 : ev X m_X5_ring 27 [a0, a1, a2, a3, a4, a5] (vI x :: st) mem = ev X m_X5_ring 28 [a0, a1, a2, vI x, a4, a5] st mem := ke_istore_n (Nat.le_of_ble_eq_true rfl) rfl dX5_ring_27
theorem eX5_ring_28 : ev X m_X5_ring 28 [a0, a1, a2, vI x, a4, a5] st mem = ev X m_X5_ring 29 [a0, a1, a2, vI x, a4, a5] (vI x :: st) mem := ke_iload_n rfl dX5_ring_28
theorem eX5_ring_29 : ev X m_X5_ring 29 [a0, a1, a2, a3, a4, a5] (vI x :: st) mem = if x = 0 then ev X m_X5_ring 38 [a0, a1, a2, a3, a4, a5] st mem else ev X m_X5_ring 32 [a0, a1, a2, a3, a4, a5] st mem := ke_if_eq dX5_ring_29 rfl
theorem eX5_ring_32 : ev X m_X5_ring 32 [vR r, a1, a2, a3, a4, a5] st mem = ev X m_X5_ring 33 [vR r, a1, a2, a3, a4, a5] (vR r :: st) mem := ke_aload_n rfl dX5_ring_32
theorem eX5_ring_33 : ev X m_X5_ring 33 [a0, a1, a2, vI x, a4, a5] st mem = ev X m_X5_ring 34 [a0, a1, a2, vI x, a4, a5] (vI x :: st) mem := ke_iload_n rfl dX5_ring_33
theorem eX5_ring_34 : ev X m_X5_ring 34 [a0, a1, a2, a3, a4, a5] (vI n0 :: vR r :: []) mem = evc X (gR mem r 5 (ev X m_X5_no 0 [vR r, vI n0] [] mem)) m_X5_ring 37 [a0, a1, a2, a3, a4, a5] [] := ke_callV (m' := m_X5_no) (as := [vI n0]) (n := 1) (rest := []) dX5_ring_34 rfl rfl rfl rfl rfl rfl (Nat.le_of_ble_eq_true rfl) (Nat.le_of_ble_eq_true rfl) (Nat.le_of_ble_eq_true rfl) rfl
theorem eX5_ring_37 : ev X m_X5_ring 37 [a0, a1, a2, a3, a4, a5] [vI x] mem = some (some (vI x), mem) := ke_ireturn dX5_ring_37 rfl
theorem eX5_ring_38 : ev X m_X5_ring 38 [a0, a1, a2, a3, a4, a5] st mem = ev X m_X5_ring 39 [a0, a1, a2, a3, a4, a5] (vI 0 :: st) mem := ke_iconst (by decide) dX5_ring_38
theorem eX5_ring_39 : ev X m_X5_ring 39 [a0, a1, a2, a3, a4, a5] (vI x :: st) mem = ev X m_X5_ring 41 [a0, a1, a2, a3, vI x, a5] st mem := ke_istore (Nat.le_of_ble_eq_true rfl) rfl dX5_ring_39
theorem eX5_ring_41 : ev X m_X5_ring 41 [a0, vI x, a2, a3, a4, a5] st mem = ev X m_X5_ring 42 [a0, vI x, a2, a3, a4, a5] (vI x :: st) mem := ke_iload_n rfl dX5_ring_41
theorem eX5_ring_42 : ev X m_X5_ring 42 [a0, a1, a2, a3, a4, a5] (vI x :: st) mem = ev X m_X5_ring 44 [a0, a1, a2, a3, a4, vI x] st mem := ke_istore (Nat.le_of_ble_eq_true rfl) rfl dX5_ring_42
theorem eX5_ring_44 : ev X m_X5_ring 44 [a0, a1, a2, a3, a4, vI x] st mem = ev X m_X5_ring 46 [a0, a1, a2, a3, a4, vI x] (vI x :: st) mem := ke_iload rfl dX5_ring_44
theorem eX5_ring_46 : ev X m_X5_ring 46 [a0, a1, a2, a3, a4, a5] (vI x :: st) mem = if x < 0 then ev X m_X5_ring 79 [a0, a1, a2, a3, a4, a5] st mem else ev X m_X5_ring 49 [a0, a1, a2, a3, a4, a5] st mem := ke_if_lt dX5_ring_46 rfl
theorem eX5_ring_49 : ev X m_X5_ring 49 [a0, a1, a2, a3, vI x, a5] st mem = ev X m_X5_ring 51 [a0, a1, a2, a3, vI x, a5] (vI x :: st) mem := ke_iload rfl dX5_ring_49
theorem eX5_ring_51 : ev X m_X5_ring 51 [a0, a1, a2, a3, a4, vI x] st mem = ev X m_X5_ring 53 [a0, a1, a2, a3, a4, vI x] (vI x :: st) mem := ke_iload rfl dX5_ring_51
theorem eX5_ring_53 : ev X m_X5_ring 53 [a0, a1, a2, a3, a4, a5] (vI n1 :: vI n0 :: []) mem = evc X (ev X m_X5_has 0 [vI n0, vI n1] [] mem) m_X5_ring 56 [a0, a1, a2, a3, a4, a5] [] := ke_callS (m' := m_X5_has) (as := [vI n0, vI n1]) (n := 2) (rest := []) dX5_ring_53 rfl (by decide) rfl rfl rfl rfl rfl (Nat.le_of_ble_eq_true rfl) (Nat.le_of_ble_eq_true rfl) rfl
theorem eX5_ring_56 : ev X m_X5_ring 56 [a0, a1, a2, a3, a4, a5] (vI x :: st) mem = if x = 0 then ev X m_X5_ring 59 [a0, a1, a2, a3, a4, a5] st mem else ev X m_X5_ring 79 [a0, a1, a2, a3, a4, a5] st mem := ke_if_ne dX5_ring_56 rfl
theorem eX5_ring_59 : ev X m_X5_ring 59 [a0, a1, a2, a3, vI x, a5] st mem = ev X m_X5_ring 61 [a0, a1, a2, a3, vI x, a5] (vI x :: st) mem := ke_iload rfl dX5_ring_59
theorem eX5_ring_61 : ev X m_X5_ring 61 [a0, a1, a2, a3, a4, a5] st mem = ev X m_X5_ring 62 [a0, a1, a2, a3, a4, a5] (vI 1 :: st) mem := ke_iconst (by decide) dX5_ring_61
theorem eX5_ring_62 : ev X m_X5_ring 62 [a0, a1, a2, a3, a4, vI x] st mem = ev X m_X5_ring 64 [a0, a1, a2, a3, a4, vI x] (vI x :: st) mem := ke_iload rfl dX5_ring_62
theorem eX5_ring_64 : ev X m_X5_ring 64 [a0, a1, a2, a3, a4, a5] (vI y :: vI x :: st) mem = ev X m_X5_ring 65 [a0, a1, a2, a3, a4, a5] (vI (shl32 x y) :: st) mem := ke_ishl dX5_ring_64
theorem eX5_ring_65 : ev X m_X5_ring 65 [a0, a1, a2, a3, a4, a5] (vI y :: vI x :: st) mem = ev X m_X5_ring 66 [a0, a1, a2, a3, a4, a5] (vI (or32 x y) :: st) mem := ke_ior dX5_ring_65
theorem eX5_ring_66 : ev X m_X5_ring 66 [a0, a1, a2, a3, a4, a5] (vI x :: st) mem = ev X m_X5_ring 68 [a0, a1, a2, a3, vI x, a5] st mem := ke_istore (Nat.le_of_ble_eq_true rfl) rfl dX5_ring_66
theorem eX5_ring_68 : ev X m_X5_ring 68 [vR r, a1, a2, a3, a4, a5] st mem = ev X m_X5_ring 69 [vR r, a1, a2, a3, a4, a5] (vR r :: st) mem := ke_aload_n rfl dX5_ring_68
theorem eX5_ring_69 : ev X m_X5_ring 69 [a0, a1, a2, a3, a4, vI x] st mem = ev X m_X5_ring 71 [a0, a1, a2, a3, a4, vI x] (vI x :: st) mem := ke_iload rfl dX5_ring_69
theorem eX5_ring_71 : ev X m_X5_ring 71 [a0, a1, a2, a3, a4, a5] (vI n0 :: vR r :: []) mem = evc X (gR mem r 5 (ev X m_X5_enemyOf 0 [vR r, vI n0] [] mem)) m_X5_ring 74 [a0, a1, a2, a3, a4, a5] [] := ke_callV (m' := m_X5_enemyOf) (as := [vI n0]) (n := 1) (rest := []) dX5_ring_71 rfl rfl rfl rfl rfl rfl (Nat.le_of_ble_eq_true rfl) (Nat.le_of_ble_eq_true rfl) (Nat.le_of_ble_eq_true rfl) rfl
theorem eX5_ring_74 : ev X m_X5_ring 74 [a0, a1, a2, a3, a4, a5] (vI x :: st) mem = ev X m_X5_ring 76 [a0, a1, a2, a3, a4, vI x] st mem := ke_istore (Nat.le_of_ble_eq_true rfl) rfl dX5_ring_74
theorem eX5_ring_76 : ev X m_X5_ring 76 [a0, a1, a2, a3, a4, a5] st mem = ev X m_X5_ring 44 [a0, a1, a2, a3, a4, a5] st mem := ke_goto dX5_ring_76 rfl
theorem eX5_ring_79 : ev X m_X5_ring 79 [a0, a1, vI x, a3, a4, a5] st mem = ev X m_X5_ring 80 [a0, a1, vI x, a3, a4, a5] (vI x :: st) mem := ke_iload_n rfl dX5_ring_79
theorem eX5_ring_80 : ev X m_X5_ring 80 [a0, a1, a2, a3, a4, a5] (vI x :: st) mem = if x = 0 then ev X m_X5_ring 83 [a0, a1, a2, a3, a4, a5] st mem else ev X m_X5_ring 91 [a0, a1, a2, a3, a4, a5] st mem := ke_if_ne dX5_ring_80 rfl
theorem eX5_ring_83 : ev X m_X5_ring 83 [a0, a1, a2, a3, vI x, a5] st mem = ev X m_X5_ring 85 [a0, a1, a2, a3, vI x, a5] (vI x :: st) mem := ke_iload rfl dX5_ring_83
theorem eX5_ring_85 : ev X m_X5_ring 85 [a0, a1, a2, a3, a4, a5] (vI n0 :: []) mem = evc X (ev X m_X5_bits 0 [vI n0, vS, vS] [] mem) m_X5_ring 88 [a0, a1, a2, a3, a4, a5] [] := ke_callS (m' := m_X5_bits) (as := [vI n0]) (n := 1) (rest := []) dX5_ring_85 rfl (by decide) rfl rfl rfl rfl rfl (Nat.le_of_ble_eq_true rfl) (Nat.le_of_ble_eq_true rfl) rfl
theorem eX5_ring_88 : ev X m_X5_ring 88 [a0, a1, a2, a3, a4, a5] st mem = ev X m_X5_ring 101 [a0, a1, a2, a3, a4, a5] st mem := ke_goto dX5_ring_88 rfl
theorem eX5_ring_91 : ev X m_X5_ring 91 [a0, a1, a2, a3, a4, vI x] st mem = ev X m_X5_ring 93 [a0, a1, a2, a3, a4, vI x] (vI x :: st) mem := ke_iload rfl dX5_ring_91
theorem eX5_ring_93 : ev X m_X5_ring 93 [a0, a1, a2, a3, a4, a5] (vI x :: st) mem = if x < 0 then ev X m_X5_ring 96 [a0, a1, a2, a3, a4, a5] st mem else ev X m_X5_ring 100 [a0, a1, a2, a3, a4, a5] st mem := ke_if_ge dX5_ring_93 rfl
theorem eX5_ring_96 : ev X m_X5_ring 96 [a0, a1, a2, a3, a4, a5] st mem = ev X m_X5_ring 97 [a0, a1, a2, a3, a4, a5] (vI 0 :: st) mem := ke_iconst (by decide) dX5_ring_96
theorem eX5_ring_97 : ev X m_X5_ring 97 [a0, a1, a2, a3, a4, a5] st mem = ev X m_X5_ring 101 [a0, a1, a2, a3, a4, a5] st mem := ke_goto dX5_ring_97 rfl
theorem eX5_ring_100 : ev X m_X5_ring 100 [a0, a1, a2, a3, a4, a5] st mem = ev X m_X5_ring 101 [a0, a1, a2, a3, a4, a5] (vI 1 :: st) mem := ke_iconst (by decide) dX5_ring_100
theorem eX5_ring_101 : ev X m_X5_ring 101 [a0, a1, a2, a3, a4, a5] [vI x] mem = some (some (vI x), mem) := ke_ireturn dX5_ring_101 rfl
theorem eX5_has_0 : ev X m_X5_has 0 [vI x, a1] st mem = ev X m_X5_has 1 [vI x, a1] (vI x :: st) mem := ke_iload_n rfl dX5_has_0
theorem eX5_has_1 : ev X m_X5_has 1 [a0, vI x] st mem = ev X m_X5_has 2 [a0, vI x] (vI x :: st) mem := ke_iload_n rfl dX5_has_1
theorem eX5_has_2 : ev X m_X5_has 2 [a0, a1] (vI y :: vI x :: st) mem = ev X m_X5_has 3 [a0, a1] (vI (shr32 x y) :: st) mem := ke_ishr dX5_has_2
theorem eX5_has_3 : ev X m_X5_has 3 [a0, a1] st mem = ev X m_X5_has 4 [a0, a1] (vI 1 :: st) mem := ke_iconst (by decide) dX5_has_3
theorem eX5_has_4 : ev X m_X5_has 4 [a0, a1] (vI y :: vI x :: st) mem = ev X m_X5_has 5 [a0, a1] (vI (and32 x y) :: st) mem := ke_iand dX5_has_4
theorem eX5_has_5 : ev X m_X5_has 5 [a0, a1] st mem = ev X m_X5_has 6 [a0, a1] (vI 1 :: st) mem := ke_iconst (by decide) dX5_has_5
theorem eX5_has_6 : ev X m_X5_has 6 [a0, a1] (vI y :: vI x :: st) mem = if x = y then ev X m_X5_has 9 [a0, a1] st mem else ev X m_X5_has 13 [a0, a1] st mem := ke_icmp_ne dX5_has_6 rfl
theorem eX5_has_9 : ev X m_X5_has 9 [a0, a1] st mem = ev X m_X5_has 10 [a0, a1] (vI 1 :: st) mem := ke_iconst (by decide) dX5_has_9
theorem eX5_has_10 : ev X m_X5_has 10 [a0, a1] st mem = ev X m_X5_has 14 [a0, a1] st mem := ke_goto dX5_has_10 rfl
theorem eX5_has_13 : ev X m_X5_has 13 [a0, a1] st mem = ev X m_X5_has 14 [a0, a1] (vI 0 :: st) mem := ke_iconst (by decide) dX5_has_13
theorem eX5_has_14a : ev X m_X5_has 14 [a0, a1] [vI 1] mem = some (some (vI 1), mem) := ke_zreturn dX5_has_14 rfl rfl
theorem eX5_has_14b : ev X m_X5_has 14 [a0, a1] [vI 0] mem = some (some (vI 0), mem) := ke_zreturn dX5_has_14 rfl rfl
theorem eX5_has_14c {c : Prop} [Decidable c] : ev X m_X5_has 14 [a0, a1] [vI (if c then 1 else 0)] mem = some (some (vI (if c then 1 else 0)), mem) := ke_zreturn dX5_has_14 rfl (by split <;> rfl)
theorem eX5_slight_0 : ev X m_X5_slight 0 [vR r, a1, a2, a3, a4, a5, a6] st mem = ev X m_X5_slight 1 [vR r, a1, a2, a3, a4, a5, a6] (vR r :: st) mem := ke_aload_n rfl dX5_slight_0
theorem eX5_slight_1 : ev X m_X5_slight 1 [a0, vI x, a2, a3, a4, a5, a6] st mem = ev X m_X5_slight 2 [a0, vI x, a2, a3, a4, a5, a6] (vI x :: st) mem := ke_iload_n rfl dX5_slight_1
theorem eX5_slight_2 : ev X m_X5_slight 2 [a0, a1, a2, a3, a4, a5, a6] (vI n0 :: vR r :: []) mem = evc X (gR mem r 5 (ev X m_X5_isParcel 0 [vR r, vI n0] [] mem)) m_X5_slight 5 [a0, a1, a2, a3, a4, a5, a6] [] := ke_callV (m' := m_X5_isParcel) (as := [vI n0]) (n := 1) (rest := []) dX5_slight_2 rfl rfl rfl rfl rfl rfl (Nat.le_of_ble_eq_true rfl) (Nat.le_of_ble_eq_true rfl) (Nat.le_of_ble_eq_true rfl) rfl
theorem eX5_slight_5 : ev X m_X5_slight 5 [a0, a1, a2, a3, a4, a5, a6] (vI x :: st) mem = if x = 0 then ev X m_X5_slight 8 [a0, a1, a2, a3, a4, a5, a6] st mem else ev X m_X5_slight 12 [a0, a1, a2, a3, a4, a5, a6] st mem := ke_if_ne dX5_slight_5 rfl
theorem eX5_slight_8 : ev X m_X5_slight 8 [a0, a1, a2, a3, a4, a5, a6] st mem = ev X m_X5_slight 9 [a0, a1, a2, a3, a4, a5, a6] (vI (-1) :: st) mem := ke_iconst (by decide) dX5_slight_8
theorem eX5_slight_9 : ev X m_X5_slight 9 [a0, a1, a2, a3, a4, a5, a6] st mem = ev X m_X5_slight 27 [a0, a1, a2, a3, a4, a5, a6] st mem := ke_goto dX5_slight_9 rfl
theorem eX5_slight_12 : ev X m_X5_slight 12 [vR r, a1, a2, a3, a4, a5, a6] st mem = ev X m_X5_slight 13 [vR r, a1, a2, a3, a4, a5, a6] (vR r :: st) mem := ke_aload_n rfl dX5_slight_12
theorem eX5_slight_13 : ev X m_X5_slight 13 [a0, a1, a2, a3, a4, a5, a6] (vR r :: st) mem = evb X (fget mem r 5 8) m_X5_slight 16 [a0, a1, a2, a3, a4, a5, a6] st mem := ke_getf rfl dX5_slight_13
theorem eX5_slight_16 : ev X m_X5_slight 16 [a0, vI x, a2, a3, a4, a5, a6] st mem = ev X m_X5_slight 17 [a0, vI x, a2, a3, a4, a5, a6] (vI x :: st) mem := ke_iload_n rfl dX5_slight_16
theorem eX5_slight_17 : ev X m_X5_slight 17 [a0, a1, a2, a3, a4, a5, a6] (vI x :: vR r :: st) mem = evb X (aget mem r x) m_X5_slight 18 [a0, a1, a2, a3, a4, a5, a6] st mem := ke_iaload dX5_slight_17
theorem eX5_slight_18 : ev X m_X5_slight 18 [a0, a1, a2, a3, a4, a5, a6] (vI x :: st) mem = if x = 0 then ev X m_X5_slight 26 [a0, a1, a2, a3, a4, a5, a6] st mem else ev X m_X5_slight 21 [a0, a1, a2, a3, a4, a5, a6] st mem := ke_if_eq dX5_slight_18 rfl
theorem eX5_slight_21 : ev X m_X5_slight 21 [a0, a1, a2, a3, a4, a5, a6] st mem = ev X m_X5_slight 23 [a0, a1, a2, a3, a4, a5, a6] (vI (-3) :: st) mem := ke_bipush (by decide) dX5_slight_21
theorem eX5_slight_23 : ev X m_X5_slight 23 [a0, a1, a2, a3, a4, a5, a6] st mem = ev X m_X5_slight 27 [a0, a1, a2, a3, a4, a5, a6] st mem := ke_goto dX5_slight_23 rfl
theorem eX5_slight_26 : ev X m_X5_slight 26 [a0, a1, a2, a3, a4, a5, a6] st mem = ev X m_X5_slight 27 [a0, a1, a2, a3, a4, a5, a6] (vI 0 :: st) mem := ke_iconst (by decide) dX5_slight_26
theorem eX5_slight_27 : ev X m_X5_slight 27 [a0, a1, a2, a3, a4, a5, a6] (vI x :: st) mem = ev X m_X5_slight 28 [a0, a1, vI x, a3, a4, a5, a6] st mem := ke_istore_n (Nat.le_of_ble_eq_true rfl) rfl dX5_slight_27
theorem eX5_slight_28 : ev X m_X5_slight 28 [a0, a1, vI x, a3, a4, a5, a6] st mem = ev X m_X5_slight 29 [a0, a1, vI x, a3, a4, a5, a6] (vI x :: st) mem := ke_iload_n rfl dX5_slight_28
theorem eX5_slight_29 : ev X m_X5_slight 29 [a0, a1, a2, a3, a4, a5, a6] (vI x :: st) mem = if x = 0 then ev X m_X5_slight 38 [a0, a1, a2, a3, a4, a5, a6] st mem else ev X m_X5_slight 32 [a0, a1, a2, a3, a4, a5, a6] st mem := ke_if_eq dX5_slight_29 rfl
theorem eX5_slight_32 : ev X m_X5_slight 32 [vR r, a1, a2, a3, a4, a5, a6] st mem = ev X m_X5_slight 33 [vR r, a1, a2, a3, a4, a5, a6] (vR r :: st) mem := ke_aload_n rfl dX5_slight_32
theorem eX5_slight_33 : ev X m_X5_slight 33 [a0, a1, vI x, a3, a4, a5, a6] st mem = ev X m_X5_slight 34 [a0, a1, vI x, a3, a4, a5, a6] (vI x :: st) mem := ke_iload_n rfl dX5_slight_33
theorem eX5_slight_34 : ev X m_X5_slight 34 [a0, a1, a2, a3, a4, a5, a6] (vI n0 :: vR r :: []) mem = evc X (gR mem r 5 (ev X m_X5_no 0 [vR r, vI n0] [] mem)) m_X5_slight 37 [a0, a1, a2, a3, a4, a5, a6] [] := ke_callV (m' := m_X5_no) (as := [vI n0]) (n := 1) (rest := []) dX5_slight_34 rfl rfl rfl rfl rfl rfl (Nat.le_of_ble_eq_true rfl) (Nat.le_of_ble_eq_true rfl) (Nat.le_of_ble_eq_true rfl) rfl
theorem eX5_slight_37 : ev X m_X5_slight 37 [a0, a1, a2, a3, a4, a5, a6] [vI x] mem = some (some (vI x), mem) := ke_ireturn dX5_slight_37 rfl
theorem eX5_slight_38 : ev X m_X5_slight 38 [a0, a1, a2, a3, a4, a5, a6] st mem = ev X m_X5_slight 40 [a0, a1, a2, a3, a4, a5, a6] (vI (-9) :: st) mem := ke_bipush (by decide) dX5_slight_38
theorem eX5_slight_40 : ev X m_X5_slight 40 [a0, a1, a2, a3, a4, a5, a6] (vI x :: st) mem = ev X m_X5_slight 41 [a0, a1, a2, vI x, a4, a5, a6] st mem := ke_istore_n (Nat.le_of_ble_eq_true rfl) rfl dX5_slight_40
theorem eX5_slight_41 : ev X m_X5_slight 41 [vR r, a1, a2, a3, a4, a5, a6] st mem = ev X m_X5_slight 42 [vR r, a1, a2, a3, a4, a5, a6] (vR r :: st) mem := ke_aload_n rfl dX5_slight_41
theorem eX5_slight_42 : ev X m_X5_slight 42 [a0, vI x, a2, a3, a4, a5, a6] st mem = ev X m_X5_slight 43 [a0, vI x, a2, a3, a4, a5, a6] (vI x :: st) mem := ke_iload_n rfl dX5_slight_42
theorem eX5_slight_43 : ev X m_X5_slight 43 [a0, a1, a2, a3, a4, a5, a6] (vI n0 :: vR r :: []) mem = evc X (gR mem r 5 (ev X m_X5_lateOf 0 [vR r, vI n0, vS] [] mem)) m_X5_slight 46 [a0, a1, a2, a3, a4, a5, a6] [] := ke_callV (m' := m_X5_lateOf) (as := [vI n0]) (n := 1) (rest := []) dX5_slight_43 rfl rfl rfl rfl rfl rfl (Nat.le_of_ble_eq_true rfl) (Nat.le_of_ble_eq_true rfl) (Nat.le_of_ble_eq_true rfl) rfl
theorem eX5_slight_46 : ev X m_X5_slight 46 [a0, a1, a2, a3, a4, a5, a6] (vI x :: st) mem = ev X m_X5_slight 48 [a0, a1, a2, a3, vI x, a5, a6] st mem := ke_istore (Nat.le_of_ble_eq_true rfl) rfl dX5_slight_46
theorem eX5_slight_48 : ev X m_X5_slight 48 [a0, a1, a2, a3, a4, a5, a6] st mem = ev X m_X5_slight 49 [a0, a1, a2, a3, a4, a5, a6] (vI 0 :: st) mem := ke_iconst (by decide) dX5_slight_48
theorem eX5_slight_49 : ev X m_X5_slight 49 [a0, a1, a2, a3, a4, a5, a6] (vI x :: st) mem = ev X m_X5_slight 51 [a0, a1, a2, a3, a4, vI x, a6] st mem := ke_istore (Nat.le_of_ble_eq_true rfl) rfl dX5_slight_49
theorem eX5_slight_51 : ev X m_X5_slight 51 [a0, a1, a2, a3, a4, vI x, a6] st mem = ev X m_X5_slight 53 [a0, a1, a2, a3, a4, vI x, a6] (vI x :: st) mem := ke_iload rfl dX5_slight_51
theorem eX5_slight_53 : ev X m_X5_slight 53 [vR r, a1, a2, a3, a4, a5, a6] st mem = ev X m_X5_slight 54 [vR r, a1, a2, a3, a4, a5, a6] (vR r :: st) mem := ke_aload_n rfl dX5_slight_53
theorem eX5_slight_54 : ev X m_X5_slight 54 [a0, a1, a2, a3, a4, a5, a6] (vR r :: st) mem = evb X (fget mem r 5 11) m_X5_slight 57 [a0, a1, a2, a3, a4, a5, a6] st mem := ke_getf rfl dX5_slight_54
theorem eX5_slight_57 : ev X m_X5_slight 57 [a0, a1, a2, a3, a4, a5, a6] (vI y :: vI x :: st) mem = if x < y then ev X m_X5_slight 60 [a0, a1, a2, a3, a4, a5, a6] st mem else ev X m_X5_slight 109 [a0, a1, a2, a3, a4, a5, a6] st mem := ke_icmp_ge dX5_slight_57 rfl
theorem eX5_slight_60 : ev X m_X5_slight 60 [a0, a1, a2, a3, a4, vI x, a6] st mem = ev X m_X5_slight 62 [a0, a1, a2, a3, a4, vI x, a6] (vI x :: st) mem := ke_iload rfl dX5_slight_60
theorem eX5_slight_62 : ev X m_X5_slight 62 [vR r, a1, a2, a3, a4, a5, a6] st mem = ev X m_X5_slight 63 [vR r, a1, a2, a3, a4, a5, a6] (vR r :: st) mem := ke_aload_n rfl dX5_slight_62
theorem eX5_slight_63 : ev X m_X5_slight 63 [a0, a1, a2, a3, a4, a5, a6] (vR r :: st) mem = evb X (fget mem r 5 6) m_X5_slight 66 [a0, a1, a2, a3, a4, a5, a6] st mem := ke_getf rfl dX5_slight_63
theorem eX5_slight_66 : ev X m_X5_slight 66 [a0, vI x, a2, a3, a4, a5, a6] st mem = ev X m_X5_slight 67 [a0, vI x, a2, a3, a4, a5, a6] (vI x :: st) mem := ke_iload_n rfl dX5_slight_66
theorem eX5_slight_67 : ev X m_X5_slight 67 [a0, a1, a2, a3, a4, a5, a6] (vI x :: vR r :: st) mem = evb X (aget mem r x) m_X5_slight 68 [a0, a1, a2, a3, a4, a5, a6] st mem := ke_iaload dX5_slight_67
theorem eX5_slight_68 : ev X m_X5_slight 68 [a0, a1, a2, a3, a4, a5, a6] (vI y :: vI x :: st) mem = if x = y then ev X m_X5_slight 71 [a0, a1, a2, a3, a4, a5, a6] st mem else ev X m_X5_slight 77 [a0, a1, a2, a3, a4, a5, a6] st mem := ke_icmp_ne dX5_slight_68 rfl
theorem eX5_slight_71 : ev X m_X5_slight 71 [a0, a1, a2, a3, a4, a5, a6] st mem = ev X m_X5_slight 74 [a0, a1, a2, a3, a4, a5, a6] (vI 1000 :: st) mem := ke_sipush (by decide) dX5_slight_71
theorem eX5_slight_74 : ev X m_X5_slight 74 [a0, a1, a2, a3, a4, a5, a6] st mem = ev X m_X5_slight 84 [a0, a1, a2, a3, a4, a5, a6] st mem := ke_goto dX5_slight_74 rfl
theorem eX5_slight_77 : ev X m_X5_slight 77 [vR r, a1, a2, a3, a4, a5, a6] st mem = ev X m_X5_slight 78 [vR r, a1, a2, a3, a4, a5, a6] (vR r :: st) mem := ke_aload_n rfl dX5_slight_77
theorem eX5_slight_78 : ev X m_X5_slight 78 [a0, vI x, a2, a3, a4, a5, a6] st mem = ev X m_X5_slight 79 [a0, vI x, a2, a3, a4, a5, a6] (vI x :: st) mem := ke_iload_n rfl dX5_slight_78
theorem eX5_slight_79 : ev X m_X5_slight 79 [a0, a1, a2, a3, a4, vI x, a6] st mem = ev X m_X5_slight 81 [a0, a1, a2, a3, a4, vI x, a6] (vI x :: st) mem := ke_iload rfl dX5_slight_79
theorem eX5_slight_81 : ev X m_X5_slight 81 [a0, a1, a2, a3, a4, a5, a6] (vI n1 :: vI n0 :: vR r :: []) mem = evc X (gR mem r 5 (ev X m_X5_lateSlighting 0 [vR r, vI n0, vI n1, vS, vS] [] mem)) m_X5_slight 84 [a0, a1, a2, a3, a4, a5, a6] [] := ke_callV (m' := m_X5_lateSlighting) (as := [vI n0, vI n1]) (n := 2) (rest := []) dX5_slight_81 rfl rfl rfl rfl rfl rfl (Nat.le_of_ble_eq_true rfl) (Nat.le_of_ble_eq_true rfl) (Nat.le_of_ble_eq_true rfl) rfl
theorem eX5_slight_84 : ev X m_X5_slight 84 [a0, a1, a2, a3, a4, a5, a6] (vI x :: st) mem = ev X m_X5_slight 86 [a0, a1, a2, a3, a4, a5, vI x] st mem := ke_istore (Nat.le_of_ble_eq_true rfl) rfl dX5_slight_84
theorem eX5_slight_86 : ev X m_X5_slight 86 [a0, a1, a2, a3, a4, a5, vI x] st mem = ev X m_X5_slight 88 [a0, a1, a2, a3, a4, a5, vI x] (vI x :: st) mem := ke_iload rfl dX5_slight_86
theorem eX5_slight_88 : ev X m_X5_slight 88 [a0, a1, a2, a3, vI x, a5, a6] st mem = ev X m_X5_slight 90 [a0, a1, a2, a3, vI x, a5, a6] (vI x :: st) mem := ke_iload rfl dX5_slight_88
theorem eX5_slight_90 : ev X m_X5_slight 90 [a0, a1, a2, a3, a4, a5, a6] (vI y :: vI x :: st) mem = if x < y then ev X m_X5_slight 96 [a0, a1, a2, a3, a4, a5, a6] st mem else ev X m_X5_slight 93 [a0, a1, a2, a3, a4, a5, a6] st mem := ke_icmp_lt dX5_slight_90 rfl
theorem eX5_slight_93 : ev X m_X5_slight 93 [a0, a1, a2, a3, a4, a5, a6] st mem = ev X m_X5_slight 103 [a0, a1, a2, a3, a4, a5, a6] st mem := ke_goto dX5_slight_93 rfl
theorem eX5_slight_96 : ev X m_X5_slight 96 [a0, a1, a2, a3, a4, vI x, a6] st mem = ev X m_X5_slight 98 [a0, a1, a2, a3, a4, vI x, a6] (vI x :: st) mem := ke_iload rfl dX5_slight_96
theorem eX5_slight_98 : ev X m_X5_slight 98 [a0, a1, a2, a3, a4, a5, a6] (vI x :: st) mem = ev X m_X5_slight 99 [a0, a1, a2, vI x, a4, a5, a6] st mem := ke_istore_n (Nat.le_of_ble_eq_true rfl) rfl dX5_slight_98
theorem eX5_slight_99 : ev X m_X5_slight 99 [a0, a1, a2, a3, a4, a5, vI x] st mem = ev X m_X5_slight 101 [a0, a1, a2, a3, a4, a5, vI x] (vI x :: st) mem := ke_iload rfl dX5_slight_99
theorem eX5_slight_101 : ev X m_X5_slight 101 [a0, a1, a2, a3, a4, a5, a6] (vI x :: st) mem = ev X m_X5_slight 103 [a0, a1, a2, a3, vI x, a5, a6] st mem := ke_istore (Nat.le_of_ble_eq_true rfl) rfl dX5_slight_101
theorem eX5_slight_103 : ev X m_X5_slight 103 [a0, a1, a2, a3, a4, vI x, a6] st mem = ev X m_X5_slight 106 [a0, a1, a2, a3, a4, vI (w32 (x + 1)), a6] st mem := ke_iinc rfl (Nat.le_of_ble_eq_true rfl) rfl dX5_slight_103
theorem eX5_slight_106 : ev X m_X5_slight 106 [a0, a1, a2, a3, a4, a5, a6] st mem = ev X m_X5_slight 51 [a0, a1, a2, a3, a4, a5, a6] st mem := ke_goto dX5_slight_106 rfl
theorem eX5_slight_109 : ev X m_X5_slight 109 [a0, a1, a2, vI x, a4, a5, a6] st mem = ev X m_X5_slight 110 [a0, a1, a2, vI x, a4, a5, a6] (vI x :: st) mem := ke_iload_n rfl dX5_slight_109
theorem eX5_slight_110 : ev X m_X5_slight 110 [a0, a1, a2, a3, a4, a5, a6] [vI x] mem = some (some (vI x), mem) := ke_ireturn dX5_slight_110 rfl
theorem eX5_lateSlighting_0 : ev X m_X5_lateSlighting 0 [vR r, a1, a2, a3, a4] st mem = ev X m_X5_lateSlighting 1 [vR r, a1, a2, a3, a4] (vR r :: st) mem := ke_aload_n rfl dX5_lateSlighting_0
theorem eX5_lateSlighting_1 : ev X m_X5_lateSlighting 1 [a0, a1, a2, a3, a4] (vR r :: st) mem = evb X (fget mem r 5 5) m_X5_lateSlighting 4 [a0, a1, a2, a3, a4] st mem := ke_getf rfl dX5_lateSlighting_1
theorem eX5_lateSlighting_4 : ev X m_X5_lateSlighting 4 [a0, a1, vI x, a3, a4] st mem = ev X m_X5_lateSlighting 5 [a0, a1, vI x, a3, a4] (vI x :: st) mem := ke_iload_n rfl dX5_lateSlighting_4
theorem eX5_lateSlighting_5 : ev X m_X5_lateSlighting 5 [vR r, a1, a2, a3, a4] st mem = ev X m_X5_lateSlighting 6 [vR r, a1, a2, a3, a4] (vR r :: st) mem := ke_aload_n rfl dX5_lateSlighting_5
theorem eX5_lateSlighting_6 : ev X m_X5_lateSlighting 6 [a0, a1, a2, a3, a4] (vR r :: st) mem = evb X (fget mem r 5 6) m_X5_lateSlighting 9 [a0, a1, a2, a3, a4] st mem := ke_getf rfl dX5_lateSlighting_6
theorem eX5_lateSlighting_9 : ev X m_X5_lateSlighting 9 [a0, vI x, a2, a3, a4] st mem = ev X m_X5_lateSlighting 10 [a0, vI x, a2, a3, a4] (vI x :: st) mem := ke_iload_n rfl dX5_lateSlighting_9
theorem eX5_lateSlighting_10 : ev X m_X5_lateSlighting 10 [a0, a1, a2, a3, a4] (vI x :: vR r :: st) mem = evb X (aget mem r x) m_X5_lateSlighting 11 [a0, a1, a2, a3, a4] st mem := ke_iaload dX5_lateSlighting_10
theorem eX5_lateSlighting_11 : ev X m_X5_lateSlighting 11 [a0, a1, a2, a3, a4] (vI n1 :: vI n0 :: [s0]) mem = evc X (ev X m_X5_spot 0 [vI n0, vI n1] [] mem) m_X5_lateSlighting 14 [a0, a1, a2, a3, a4] [s0] := ke_callS (m' := m_X5_spot) (as := [vI n0, vI n1]) (n := 2) (rest := [s0]) dX5_lateSlighting_11 rfl (by decide) rfl rfl rfl rfl rfl (Nat.le_of_ble_eq_true rfl) (Nat.le_of_ble_eq_true rfl) rfl
theorem eX5_lateSlighting_14 : ev X m_X5_lateSlighting 14 [a0, a1, a2, a3, a4] (vI x :: vR r :: st) mem = evb X (aget mem r x) m_X5_lateSlighting 15 [a0, a1, a2, a3, a4] st mem := ke_iaload dX5_lateSlighting_14
theorem eX5_lateSlighting_15 : ev X m_X5_lateSlighting 15 [a0, a1, a2, a3, a4] (vI x :: st) mem = ev X m_X5_lateSlighting 16 [a0, a1, a2, vI x, a4] st mem := ke_istore_n (Nat.le_of_ble_eq_true rfl) rfl dX5_lateSlighting_15
theorem eX5_lateSlighting_16 : ev X m_X5_lateSlighting 16 [vR r, a1, a2, a3, a4] st mem = ev X m_X5_lateSlighting 17 [vR r, a1, a2, a3, a4] (vR r :: st) mem := ke_aload_n rfl dX5_lateSlighting_16
theorem eX5_lateSlighting_17 : ev X m_X5_lateSlighting 17 [a0, a1, vI x, a3, a4] st mem = ev X m_X5_lateSlighting 18 [a0, a1, vI x, a3, a4] (vI x :: st) mem := ke_iload_n rfl dX5_lateSlighting_17
theorem eX5_lateSlighting_18 : ev X m_X5_lateSlighting 18 [vR r, a1, a2, a3, a4] st mem = ev X m_X5_lateSlighting 19 [vR r, a1, a2, a3, a4] (vR r :: st) mem := ke_aload_n rfl dX5_lateSlighting_18
theorem eX5_lateSlighting_19 : ev X m_X5_lateSlighting 19 [a0, a1, a2, a3, a4] (vR r :: st) mem = evb X (fget mem r 5 6) m_X5_lateSlighting 22 [a0, a1, a2, a3, a4] st mem := ke_getf rfl dX5_lateSlighting_19
theorem eX5_lateSlighting_22 : ev X m_X5_lateSlighting 22 [a0, vI x, a2, a3, a4] st mem = ev X m_X5_lateSlighting 23 [a0, vI x, a2, a3, a4] (vI x :: st) mem := ke_iload_n rfl dX5_lateSlighting_22
theorem eX5_lateSlighting_23 : ev X m_X5_lateSlighting 23 [a0, a1, a2, a3, a4] (vI x :: vR r :: st) mem = evb X (aget mem r x) m_X5_lateSlighting 24 [a0, a1, a2, a3, a4] st mem := ke_iaload dX5_lateSlighting_23
theorem eX5_lateSlighting_24 : ev X m_X5_lateSlighting 24 [a0, a1, a2, a3, a4] st mem = ev X m_X5_lateSlighting 25 [a0, a1, a2, a3, a4] (vI 1 :: st) mem := ke_iconst (by decide) dX5_lateSlighting_24
theorem eX5_lateSlighting_25 : ev X m_X5_lateSlighting 25 [a0, a1, a2, a3, a4] (vI n2 :: vI n1 :: vI n0 :: vR r :: []) mem = evc X (gR mem r 5 (ev X m_X5_slighted 0 [vR r, vI n0, vI n1, vI n2] [] mem)) m_X5_lateSlighting 28 [a0, a1, a2, a3, a4] [] := ke_callV (m' := m_X5_slighted) (as := [vI n0, vI n1, vI n2]) (n := 3) (rest := []) dX5_lateSlighting_25 rfl rfl rfl rfl rfl rfl (Nat.le_of_ble_eq_true rfl) (Nat.le_of_ble_eq_true rfl) (Nat.le_of_ble_eq_true rfl) rfl
theorem eX5_lateSlighting_28 : ev X m_X5_lateSlighting 28 [vR r, a1, a2, a3, a4] st mem = ev X m_X5_lateSlighting 29 [vR r, a1, a2, a3, a4] (vR r :: st) mem := ke_aload_n rfl dX5_lateSlighting_28
theorem eX5_lateSlighting_29 : ev X m_X5_lateSlighting 29 [a0, vI x, a2, a3, a4] st mem = ev X m_X5_lateSlighting 30 [a0, vI x, a2, a3, a4] (vI x :: st) mem := ke_iload_n rfl dX5_lateSlighting_29
theorem eX5_lateSlighting_30 : ev X m_X5_lateSlighting 30 [a0, a1, a2, a3, a4] (vI n0 :: vR r :: []) mem = evc X (gR mem r 5 (ev X m_X5_lateOf 0 [vR r, vI n0, vS] [] mem)) m_X5_lateSlighting 33 [a0, a1, a2, a3, a4] [] := ke_callV (m' := m_X5_lateOf) (as := [vI n0]) (n := 1) (rest := []) dX5_lateSlighting_30 rfl rfl rfl rfl rfl rfl (Nat.le_of_ble_eq_true rfl) (Nat.le_of_ble_eq_true rfl) (Nat.le_of_ble_eq_true rfl) rfl
theorem eX5_lateSlighting_33 : ev X m_X5_lateSlighting 33 [a0, a1, a2, a3, a4] (vI x :: st) mem = ev X m_X5_lateSlighting 35 [a0, a1, a2, a3, vI x] st mem := ke_istore (Nat.le_of_ble_eq_true rfl) rfl dX5_lateSlighting_33
theorem eX5_lateSlighting_35 : ev X m_X5_lateSlighting 35 [vR r, a1, a2, a3, a4] st mem = ev X m_X5_lateSlighting 36 [vR r, a1, a2, a3, a4] (vR r :: st) mem := ke_aload_n rfl dX5_lateSlighting_35
theorem eX5_lateSlighting_36 : ev X m_X5_lateSlighting 36 [a0, a1, a2, a3, a4] (vR r :: st) mem = evb X (fget mem r 5 5) m_X5_lateSlighting 39 [a0, a1, a2, a3, a4] st mem := ke_getf rfl dX5_lateSlighting_36
theorem eX5_lateSlighting_39 : ev X m_X5_lateSlighting 39 [a0, a1, vI x, a3, a4] st mem = ev X m_X5_lateSlighting 40 [a0, a1, vI x, a3, a4] (vI x :: st) mem := ke_iload_n rfl dX5_lateSlighting_39
theorem eX5_lateSlighting_40 : ev X m_X5_lateSlighting 40 [vR r, a1, a2, a3, a4] st mem = ev X m_X5_lateSlighting 41 [vR r, a1, a2, a3, a4] (vR r :: st) mem := ke_aload_n rfl dX5_lateSlighting_40
theorem eX5_lateSlighting_41 : ev X m_X5_lateSlighting 41 [a0, a1, a2, a3, a4] (vR r :: st) mem = evb X (fget mem r 5 6) m_X5_lateSlighting 44 [a0, a1, a2, a3, a4] st mem := ke_getf rfl dX5_lateSlighting_41
theorem eX5_lateSlighting_44 : ev X m_X5_lateSlighting 44 [a0, vI x, a2, a3, a4] st mem = ev X m_X5_lateSlighting 45 [a0, vI x, a2, a3, a4] (vI x :: st) mem := ke_iload_n rfl dX5_lateSlighting_44
theorem eX5_lateSlighting_45 : ev X m_X5_lateSlighting 45 [a0, a1, a2, a3, a4] (vI x :: vR r :: st) mem = evb X (aget mem r x) m_X5_lateSlighting 46 [a0, a1, a2, a3, a4] st mem := ke_iaload dX5_lateSlighting_45
theorem eX5_lateSlighting_46 : ev X m_X5_lateSlighting 46 [a0, a1, a2, a3, a4] (vI n1 :: vI n0 :: [s0]) mem = evc X (ev X m_X5_spot 0 [vI n0, vI n1] [] mem) m_X5_lateSlighting 49 [a0, a1, a2, a3, a4] [s0] := ke_callS (m' := m_X5_spot) (as := [vI n0, vI n1]) (n := 2) (rest := [s0]) dX5_lateSlighting_46 rfl (by decide) rfl rfl rfl rfl rfl (Nat.le_of_ble_eq_true rfl) (Nat.le_of_ble_eq_true rfl) rfl
theorem eX5_lateSlighting_49 : ev X m_X5_lateSlighting 49 [a0, a1, a2, vI x, a4] st mem = ev X m_X5_lateSlighting 50 [a0, a1, a2, vI x, a4] (vI x :: st) mem := ke_iload_n rfl dX5_lateSlighting_49
theorem eX5_lateSlighting_50 : ev X m_X5_lateSlighting 50 [a0, a1, a2, a3, a4] (vI y :: vI x :: vR r :: st) mem = evm X (aput mem r x y) m_X5_lateSlighting 51 [a0, a1, a2, a3, a4] st := ke_iastore dX5_lateSlighting_50
theorem eX5_lateSlighting_51 : ev X m_X5_lateSlighting 51 [a0, a1, a2, a3, vI x] st mem = ev X m_X5_lateSlighting 53 [a0, a1, a2, a3, vI x] (vI x :: st) mem := ke_iload rfl dX5_lateSlighting_51
theorem eX5_lateSlighting_53 : ev X m_X5_lateSlighting 53 [a0, a1, a2, a3, a4] [vI x] mem = some (some (vI x), mem) := ke_ireturn dX5_lateSlighting_53 rfl
theorem eX5_cost_0 : ev X m_X5_cost 0 [vR r, a1, a2, a3, a4, a5, a6] st mem = ev X m_X5_cost 1 [vR r, a1, a2, a3, a4, a5, a6] (vR r :: st) mem := ke_aload_n rfl dX5_cost_0
theorem eX5_cost_1 : ev X m_X5_cost 1 [a0, vI x, a2, a3, a4, a5, a6] st mem = ev X m_X5_cost 2 [a0, vI x, a2, a3, a4, a5, a6] (vI x :: st) mem := ke_iload_n rfl dX5_cost_1
theorem eX5_cost_2 : ev X m_X5_cost 2 [a0, a1, a2, a3, a4, a5, a6] (vI n0 :: vR r :: []) mem = evc X (gR mem r 5 (ev X m_X5_isParcel 0 [vR r, vI n0] [] mem)) m_X5_cost 5 [a0, a1, a2, a3, a4, a5, a6] [] := ke_callV (m' := m_X5_isParcel) (as := [vI n0]) (n := 1) (rest := []) dX5_cost_2 rfl rfl rfl rfl rfl rfl (Nat.le_of_ble_eq_true rfl) (Nat.le_of_ble_eq_true rfl) (Nat.le_of_ble_eq_true rfl) rfl
theorem eX5_cost_5 : ev X m_X5_cost 5 [a0, a1, a2, a3, a4, a5, a6] (vI x :: st) mem = if x = 0 then ev X m_X5_cost 8 [a0, a1, a2, a3, a4, a5, a6] st mem else ev X m_X5_cost 12 [a0, a1, a2, a3, a4, a5, a6] st mem := ke_if_ne dX5_cost_5 rfl
theorem eX5_cost_8 : ev X m_X5_cost 8 [a0, a1, a2, a3, a4, a5, a6] st mem = ev X m_X5_cost 9 [a0, a1, a2, a3, a4, a5, a6] (vI (-1) :: st) mem := ke_iconst (by decide) dX5_cost_8
theorem eX5_cost_9 : ev X m_X5_cost 9 [a0, a1, a2, a3, a4, a5, a6] st mem = ev X m_X5_cost 19 [a0, a1, a2, a3, a4, a5, a6] st mem := ke_goto dX5_cost_9 rfl
theorem eX5_cost_12 : ev X m_X5_cost 12 [a0, a1, vI x, a3, a4, a5, a6] st mem = ev X m_X5_cost 13 [a0, a1, vI x, a3, a4, a5, a6] (vI x :: st) mem := ke_iload_n rfl dX5_cost_12
theorem eX5_cost_13 : ev X m_X5_cost 13 [a0, a1, a2, a3, a4, a5, a6] st mem = ev X m_X5_cost 14 [a0, a1, a2, a3, a4, a5, a6] (vI 1 :: st) mem := ke_iconst (by decide) dX5_cost_13
theorem eX5_cost_14 : ev X m_X5_cost 14 [a0, a1, a2, a3, a4, a5, a6] st mem = ev X m_X5_cost 16 [a0, a1, a2, a3, a4, a5, a6] (vI 60 :: st) mem := ke_bipush (by decide) dX5_cost_14
theorem eX5_cost_16 : ev X m_X5_cost 16 [a0, a1, a2, a3, a4, a5, a6] (vI n2 :: vI n1 :: vI n0 :: []) mem = evc X (ev X m_X5_bound 0 [vI n0, vI n1, vI n2] [] mem) m_X5_cost 19 [a0, a1, a2, a3, a4, a5, a6] [] := ke_callS (m' := m_X5_bound) (as := [vI n0, vI n1, vI n2]) (n := 3) (rest := []) dX5_cost_16 rfl (by decide) rfl rfl rfl rfl rfl (Nat.le_of_ble_eq_true rfl) (Nat.le_of_ble_eq_true rfl) rfl
theorem eX5_cost_19 : ev X m_X5_cost 19 [a0, a1, a2, a3, a4, a5, a6] (vI x :: st) mem = ev X m_X5_cost 20 [a0, a1, a2, vI x, a4, a5, a6] st mem := ke_istore_n (Nat.le_of_ble_eq_true rfl) rfl dX5_cost_19
theorem eX5_cost_20 : ev X m_X5_cost 20 [a0, a1, a2, vI x, a4, a5, a6] st mem = ev X m_X5_cost 21 [a0, a1, a2, vI x, a4, a5, a6] (vI x :: st) mem := ke_iload_n rfl dX5_cost_20
theorem eX5_cost_21 : ev X m_X5_cost 21 [a0, a1, a2, a3, a4, a5, a6] (vI x :: st) mem = if x = 0 then ev X m_X5_cost 24 [a0, a1, a2, a3, a4, a5, a6] st mem else ev X m_X5_cost 36 [a0, a1, a2, a3, a4, a5, a6] st mem := ke_if_ne dX5_cost_21 rfl
theorem eX5_cost_24 : ev X m_X5_cost 24 [vR r, a1, a2, a3, a4, a5, a6] st mem = ev X m_X5_cost 25 [vR r, a1, a2, a3, a4, a5, a6] (vR r :: st) mem := ke_aload_n rfl dX5_cost_24
theorem eX5_cost_25 : ev X m_X5_cost 25 [a0, a1, a2, a3, a4, a5, a6] (vR r :: st) mem = evb X (fget mem r 5 8) m_X5_cost 28 [a0, a1, a2, a3, a4, a5, a6] st mem := ke_getf rfl dX5_cost_25
theorem eX5_cost_28 : ev X m_X5_cost 28 [a0, vI x, a2, a3, a4, a5, a6] st mem = ev X m_X5_cost 29 [a0, vI x, a2, a3, a4, a5, a6] (vI x :: st) mem := ke_iload_n rfl dX5_cost_28
theorem eX5_cost_29 : ev X m_X5_cost 29 [a0, a1, a2, a3, a4, a5, a6] (vI x :: vR r :: st) mem = evb X (aget mem r x) m_X5_cost 30 [a0, a1, a2, a3, a4, a5, a6] st mem := ke_iaload dX5_cost_29
theorem eX5_cost_30 : ev X m_X5_cost 30 [a0, a1, a2, a3, a4, a5, a6] (vI x :: st) mem = if x = 0 then ev X m_X5_cost 36 [a0, a1, a2, a3, a4, a5, a6] st mem else ev X m_X5_cost 33 [a0, a1, a2, a3, a4, a5, a6] st mem := ke_if_eq dX5_cost_30 rfl
theorem eX5_cost_33 : ev X m_X5_cost 33 [a0, a1, a2, a3, a4, a5, a6] st mem = ev X m_X5_cost 35 [a0, a1, a2, a3, a4, a5, a6] (vI (-3) :: st) mem := ke_bipush (by decide) dX5_cost_33
theorem eX5_cost_35 : ev X m_X5_cost 35 [a0, a1, a2, a3, a4, a5, a6] (vI x :: st) mem = ev X m_X5_cost 36 [a0, a1, a2, vI x, a4, a5, a6] st mem := ke_istore_n (Nat.le_of_ble_eq_true rfl) rfl dX5_cost_35
theorem eX5_cost_36 : ev X m_X5_cost 36 [a0, a1, a2, vI x, a4, a5, a6] st mem = ev X m_X5_cost 37 [a0, a1, a2, vI x, a4, a5, a6] (vI x :: st) mem := ke_iload_n rfl dX5_cost_36
theorem eX5_cost_37 : ev X m_X5_cost 37 [a0, a1, a2, a3, a4, a5, a6] (vI x :: st) mem = if x = 0 then ev X m_X5_cost 46 [a0, a1, a2, a3, a4, a5, a6] st mem else ev X m_X5_cost 40 [a0, a1, a2, a3, a4, a5, a6] st mem := ke_if_eq dX5_cost_37 rfl
theorem eX5_cost_40 : ev X m_X5_cost 40 [vR r, a1, a2, a3, a4, a5, a6] st mem = ev X m_X5_cost 41 [vR r, a1, a2, a3, a4, a5, a6] (vR r :: st) mem := ke_aload_n rfl dX5_cost_40
theorem eX5_cost_41 : ev X m_X5_cost 41 [a0, a1, a2, vI x, a4, a5, a6] st mem = ev X m_X5_cost 42 [a0, a1, a2, vI x, a4, a5, a6] (vI x :: st) mem := ke_iload_n rfl dX5_cost_41
theorem eX5_cost_42 : ev X m_X5_cost 42 [a0, a1, a2, a3, a4, a5, a6] (vI n0 :: vR r :: []) mem = evc X (gR mem r 5 (ev X m_X5_no 0 [vR r, vI n0] [] mem)) m_X5_cost 45 [a0, a1, a2, a3, a4, a5, a6] [] := ke_callV (m' := m_X5_no) (as := [vI n0]) (n := 1) (rest := []) dX5_cost_42 rfl rfl rfl rfl rfl rfl (Nat.le_of_ble_eq_true rfl) (Nat.le_of_ble_eq_true rfl) (Nat.le_of_ble_eq_true rfl) rfl
theorem eX5_cost_45 : ev X m_X5_cost 45 [a0, a1, a2, a3, a4, a5, a6] [vI x] mem = some (some (vI x), mem) := ke_ireturn dX5_cost_45 rfl
theorem eX5_cost_46 : ev X m_X5_cost 46 [a0, a1, a2, a3, a4, a5, a6] st mem = ev X m_X5_cost 49 [a0, a1, a2, a3, a4, a5, a6] (vI 1000 :: st) mem := ke_sipush (by decide) dX5_cost_46
theorem eX5_cost_49 : ev X m_X5_cost 49 [a0, a1, a2, a3, a4, a5, a6] (vI x :: st) mem = ev X m_X5_cost 51 [a0, a1, a2, a3, vI x, a5, a6] st mem := ke_istore (Nat.le_of_ble_eq_true rfl) rfl dX5_cost_49
theorem eX5_cost_51 : ev X m_X5_cost 51 [a0, a1, a2, a3, a4, a5, a6] st mem = ev X m_X5_cost 52 [a0, a1, a2, a3, a4, a5, a6] (vI 0 :: st) mem := ke_iconst (by decide) dX5_cost_51
theorem eX5_cost_52 : ev X m_X5_cost 52 [a0, a1, a2, a3, a4, a5, a6] (vI x :: st) mem = ev X m_X5_cost 54 [a0, a1, a2, a3, a4, vI x, a6] st mem := ke_istore (Nat.le_of_ble_eq_true rfl) rfl dX5_cost_52
theorem eX5_cost_54 : ev X m_X5_cost 54 [a0, a1, a2, a3, a4, vI x, a6] st mem = ev X m_X5_cost 56 [a0, a1, a2, a3, a4, vI x, a6] (vI x :: st) mem := ke_iload rfl dX5_cost_54
theorem eX5_cost_56 : ev X m_X5_cost 56 [a0, a1, a2, a3, a4, a5, a6] st mem = ev X m_X5_cost 59 [a0, a1, a2, a3, a4, a5, a6] (vI 343 :: st) mem := ke_sipush (by decide) dX5_cost_56
theorem eX5_cost_59 : ev X m_X5_cost 59 [a0, a1, a2, a3, a4, a5, a6] (vI y :: vI x :: st) mem = if x < y then ev X m_X5_cost 62 [a0, a1, a2, a3, a4, a5, a6] st mem else ev X m_X5_cost 99 [a0, a1, a2, a3, a4, a5, a6] st mem := ke_icmp_ge dX5_cost_59 rfl
theorem eX5_cost_62 : ev X m_X5_cost 62 [vR r, a1, a2, a3, a4, a5, a6] st mem = ev X m_X5_cost 63 [vR r, a1, a2, a3, a4, a5, a6] (vR r :: st) mem := ke_aload_n rfl dX5_cost_62
theorem eX5_cost_63 : ev X m_X5_cost 63 [a0, vI x, a2, a3, a4, a5, a6] st mem = ev X m_X5_cost 64 [a0, vI x, a2, a3, a4, a5, a6] (vI x :: st) mem := ke_iload_n rfl dX5_cost_63
theorem eX5_cost_64 : ev X m_X5_cost 64 [a0, a1, a2, a3, a4, vI x, a6] st mem = ev X m_X5_cost 66 [a0, a1, a2, a3, a4, vI x, a6] (vI x :: st) mem := ke_iload rfl dX5_cost_64
theorem eX5_cost_66 : ev X m_X5_cost 66 [a0, a1, a2, a3, a4, a5, a6] (vI n1 :: vI n0 :: vR r :: []) mem = evc X (gR mem r 5 (ev X m_X5_slightsOf 0 [vR r, vI n0, vI n1, vS, vS, vS] [] mem)) m_X5_cost 69 [a0, a1, a2, a3, a4, a5, a6] [] := ke_callV (m' := m_X5_slightsOf) (as := [vI n0, vI n1]) (n := 2) (rest := []) dX5_cost_66 rfl rfl rfl rfl rfl rfl (Nat.le_of_ble_eq_true rfl) (Nat.le_of_ble_eq_true rfl) (Nat.le_of_ble_eq_true rfl) rfl
theorem eX5_cost_69 : ev X m_X5_cost 69 [a0, a1, a2, a3, a4, a5, a6] (vI x :: st) mem = ev X m_X5_cost 71 [a0, a1, a2, a3, a4, a5, vI x] st mem := ke_istore (Nat.le_of_ble_eq_true rfl) rfl dX5_cost_69
theorem eX5_cost_71 : ev X m_X5_cost 71 [a0, a1, a2, a3, a4, a5, vI x] st mem = ev X m_X5_cost 73 [a0, a1, a2, a3, a4, a5, vI x] (vI x :: st) mem := ke_iload rfl dX5_cost_71
theorem eX5_cost_73 : ev X m_X5_cost 73 [a0, a1, a2, a3, vI x, a5, a6] st mem = ev X m_X5_cost 75 [a0, a1, a2, a3, vI x, a5, a6] (vI x :: st) mem := ke_iload rfl dX5_cost_73
theorem eX5_cost_75 : ev X m_X5_cost 75 [a0, a1, a2, a3, a4, a5, a6] (vI y :: vI x :: st) mem = if x < y then ev X m_X5_cost 78 [a0, a1, a2, a3, a4, a5, a6] st mem else ev X m_X5_cost 93 [a0, a1, a2, a3, a4, a5, a6] st mem := ke_icmp_ge dX5_cost_75 rfl
theorem eX5_cost_78 : ev X m_X5_cost 78 [vR r, a1, a2, a3, a4, a5, a6] st mem = ev X m_X5_cost 79 [vR r, a1, a2, a3, a4, a5, a6] (vR r :: st) mem := ke_aload_n rfl dX5_cost_78
theorem eX5_cost_79 : ev X m_X5_cost 79 [a0, vI x, a2, a3, a4, a5, a6] st mem = ev X m_X5_cost 80 [a0, vI x, a2, a3, a4, a5, a6] (vI x :: st) mem := ke_iload_n rfl dX5_cost_79
theorem eX5_cost_80 : ev X m_X5_cost 80 [a0, a1, a2, a3, a4, vI x, a6] st mem = ev X m_X5_cost 82 [a0, a1, a2, a3, a4, vI x, a6] (vI x :: st) mem := ke_iload rfl dX5_cost_80
theorem eX5_cost_82 : ev X m_X5_cost 82 [a0, a1, vI x, a3, a4, a5, a6] st mem = ev X m_X5_cost 83 [a0, a1, vI x, a3, a4, a5, a6] (vI x :: st) mem := ke_iload_n rfl dX5_cost_82
theorem eX5_cost_83 : ev X m_X5_cost 83 [a0, a1, a2, a3, a4, a5, a6] (vI n2 :: vI n1 :: vI n0 :: vR r :: []) mem = evc X (gR mem r 5 (ev X m_X5_bringsIn 0 [vR r, vI n0, vI n1, vI n2, vS, vS] [] mem)) m_X5_cost 86 [a0, a1, a2, a3, a4, a5, a6] [] := ke_callV (m' := m_X5_bringsIn) (as := [vI n0, vI n1, vI n2]) (n := 3) (rest := []) dX5_cost_83 rfl rfl rfl rfl rfl rfl (Nat.le_of_ble_eq_true rfl) (Nat.le_of_ble_eq_true rfl) (Nat.le_of_ble_eq_true rfl) rfl
theorem eX5_cost_86 : ev X m_X5_cost 86 [a0, a1, a2, a3, a4, a5, a6] (vI x :: st) mem = if x = 0 then ev X m_X5_cost 93 [a0, a1, a2, a3, a4, a5, a6] st mem else ev X m_X5_cost 89 [a0, a1, a2, a3, a4, a5, a6] st mem := ke_if_eq dX5_cost_86 rfl
theorem eX5_cost_89 : ev X m_X5_cost 89 [a0, a1, a2, a3, a4, a5, vI x] st mem = ev X m_X5_cost 91 [a0, a1, a2, a3, a4, a5, vI x] (vI x :: st) mem := ke_iload rfl dX5_cost_89
theorem eX5_cost_91 : ev X m_X5_cost 91 [a0, a1, a2, a3, a4, a5, a6] (vI x :: st) mem = ev X m_X5_cost 93 [a0, a1, a2, a3, vI x, a5, a6] st mem := ke_istore (Nat.le_of_ble_eq_true rfl) rfl dX5_cost_91
theorem eX5_cost_93 : ev X m_X5_cost 93 [a0, a1, a2, a3, a4, vI x, a6] st mem = ev X m_X5_cost 96 [a0, a1, a2, a3, a4, vI (w32 (x + 1)), a6] st mem := ke_iinc rfl (Nat.le_of_ble_eq_true rfl) rfl dX5_cost_93
theorem eX5_cost_96 : ev X m_X5_cost 96 [a0, a1, a2, a3, a4, a5, a6] st mem = ev X m_X5_cost 54 [a0, a1, a2, a3, a4, a5, a6] st mem := ke_goto dX5_cost_96 rfl
theorem eX5_cost_99 : ev X m_X5_cost 99 [a0, a1, a2, a3, vI x, a5, a6] st mem = ev X m_X5_cost 101 [a0, a1, a2, a3, vI x, a5, a6] (vI x :: st) mem := ke_iload rfl dX5_cost_99
theorem eX5_cost_101 : ev X m_X5_cost 101 [a0, a1, a2, a3, a4, a5, a6] st mem = ev X m_X5_cost 104 [a0, a1, a2, a3, a4, a5, a6] (vI 1000 :: st) mem := ke_sipush (by decide) dX5_cost_101
theorem eX5_cost_104 : ev X m_X5_cost 104 [a0, a1, a2, a3, a4, a5, a6] (vI y :: vI x :: st) mem = if x = y then ev X m_X5_cost 107 [a0, a1, a2, a3, a4, a5, a6] st mem else ev X m_X5_cost 112 [a0, a1, a2, a3, a4, a5, a6] st mem := ke_icmp_ne dX5_cost_104 rfl
theorem eX5_cost_107 : ev X m_X5_cost 107 [a0, a1, a2, a3, a4, a5, a6] st mem = ev X m_X5_cost 109 [a0, a1, a2, a3, a4, a5, a6] (vI (-9) :: st) mem := ke_bipush (by decide) dX5_cost_107
theorem eX5_cost_109 : ev X m_X5_cost 109 [a0, a1, a2, a3, a4, a5, a6] st mem = ev X m_X5_cost 114 [a0, a1, a2, a3, a4, a5, a6] st mem := ke_goto dX5_cost_109 rfl
theorem eX5_cost_112 : ev X m_X5_cost 112 [a0, a1, a2, a3, vI x, a5, a6] st mem = ev X m_X5_cost 114 [a0, a1, a2, a3, vI x, a5, a6] (vI x :: st) mem := ke_iload rfl dX5_cost_112
theorem eX5_cost_114 : ev X m_X5_cost 114 [a0, a1, a2, a3, a4, a5, a6] [vI x] mem = some (some (vI x), mem) := ke_ireturn dX5_cost_114 rfl
theorem eX5_slightsOf_0 : ev X m_X5_slightsOf 0 [a0, a1, a2, a3, a4, a5] st mem = ev X m_X5_slightsOf 1 [a0, a1, a2, a3, a4, a5] (vI 0 :: st) mem := ke_iconst (by decide) dX5_slightsOf_0
theorem eX5_slightsOf_1 : ev X m_X5_slightsOf 1 [a0, a1, a2, a3, a4, a5] (vI x :: st) mem = ev X m_X5_slightsOf 2 [a0, a1, a2, vI x, a4, a5] st mem := ke_istore_n (Nat.le_of_ble_eq_true rfl) rfl dX5_slightsOf_1
theorem eX5_slightsOf_2 : ev X m_X5_slightsOf 2 [a0, a1, vI x, a3, a4, a5] st mem = ev X m_X5_slightsOf 3 [a0, a1, vI x, a3, a4, a5] (vI x :: st) mem := ke_iload_n rfl dX5_slightsOf_2
theorem eX5_slightsOf_3 : ev X m_X5_slightsOf 3 [a0, a1, a2, a3, a4, a5] (vI x :: st) mem = ev X m_X5_slightsOf 5 [a0, a1, a2, a3, vI x, a5] st mem := ke_istore (Nat.le_of_ble_eq_true rfl) rfl dX5_slightsOf_3
theorem eX5_slightsOf_5 : ev X m_X5_slightsOf 5 [a0, a1, a2, a3, vI x, a5] st mem = ev X m_X5_slightsOf 7 [a0, a1, a2, a3, vI x, a5] (vI x :: st) mem := ke_iload rfl dX5_slightsOf_5
theorem eX5_slightsOf_7 : ev X m_X5_slightsOf 7 [a0, a1, a2, a3, a4, a5] (vI x :: st) mem = if 0 < x then ev X m_X5_slightsOf 10 [a0, a1, a2, a3, a4, a5] st mem else ev X m_X5_slightsOf 66 [a0, a1, a2, a3, a4, a5] st mem := ke_if_le dX5_slightsOf_7 rfl
theorem eX5_slightsOf_10 : ev X m_X5_slightsOf 10 [a0, a1, a2, a3, vI x, a5] st mem = ev X m_X5_slightsOf 12 [a0, a1, a2, a3, vI x, a5] (vI x :: st) mem := ke_iload rfl dX5_slightsOf_10
theorem eX5_slightsOf_12 : ev X m_X5_slightsOf 12 [a0, a1, a2, a3, a4, a5] st mem = ev X m_X5_slightsOf 14 [a0, a1, a2, a3, a4, a5] (vI 7 :: st) mem := ke_bipush (by decide) dX5_slightsOf_12
theorem eX5_slightsOf_14 : ev X m_X5_slightsOf 14 [a0, a1, a2, a3, a4, a5] (vI y :: vI x :: st) mem = if y = 0 then none else ev X m_X5_slightsOf 15 [a0, a1, a2, a3, a4, a5] (vI (w32 (x.tmod y)) :: st) mem := ke_irem dX5_slightsOf_14
theorem eX5_slightsOf_15 : ev X m_X5_slightsOf 15 [a0, a1, a2, a3, a4, a5] st mem = ev X m_X5_slightsOf 16 [a0, a1, a2, a3, a4, a5] (vI 1 :: st) mem := ke_iconst (by decide) dX5_slightsOf_15
theorem eX5_slightsOf_16 : ev X m_X5_slightsOf 16 [a0, a1, a2, a3, a4, a5] (vI y :: vI x :: st) mem = ev X m_X5_slightsOf 17 [a0, a1, a2, a3, a4, a5] (vI (w32 (x - y)) :: st) mem := ke_isub dX5_slightsOf_16
theorem eX5_slightsOf_17 : ev X m_X5_slightsOf 17 [a0, a1, a2, a3, a4, a5] (vI x :: st) mem = ev X m_X5_slightsOf 19 [a0, a1, a2, a3, a4, vI x] st mem := ke_istore (Nat.le_of_ble_eq_true rfl) rfl dX5_slightsOf_17
theorem eX5_slightsOf_19 : ev X m_X5_slightsOf 19 [a0, a1, a2, a3, a4, vI x] st mem = ev X m_X5_slightsOf 21 [a0, a1, a2, a3, a4, vI x] (vI x :: st) mem := ke_iload rfl dX5_slightsOf_19
theorem eX5_slightsOf_21 : ev X m_X5_slightsOf 21 [vR r, a1, a2, a3, a4, a5] st mem = ev X m_X5_slightsOf 22 [vR r, a1, a2, a3, a4, a5] (vR r :: st) mem := ke_aload_n rfl dX5_slightsOf_21
theorem eX5_slightsOf_22 : ev X m_X5_slightsOf 22 [a0, a1, a2, a3, a4, a5] (vR r :: st) mem = evb X (fget mem r 5 6) m_X5_slightsOf 25 [a0, a1, a2, a3, a4, a5] st mem := ke_getf rfl dX5_slightsOf_22
theorem eX5_slightsOf_25 : ev X m_X5_slightsOf 25 [a0, vI x, a2, a3, a4, a5] st mem = ev X m_X5_slightsOf 26 [a0, vI x, a2, a3, a4, a5] (vI x :: st) mem := ke_iload_n rfl dX5_slightsOf_25
theorem eX5_slightsOf_26 : ev X m_X5_slightsOf 26 [a0, a1, a2, a3, a4, a5] (vI x :: vR r :: st) mem = evb X (aget mem r x) m_X5_slightsOf 27 [a0, a1, a2, a3, a4, a5] st mem := ke_iaload dX5_slightsOf_26
theorem eX5_slightsOf_27 : ev X m_X5_slightsOf 27 [a0, a1, a2, a3, a4, a5] (vI y :: vI x :: st) mem = if x = y then ev X m_X5_slightsOf 39 [a0, a1, a2, a3, a4, a5] st mem else ev X m_X5_slightsOf 30 [a0, a1, a2, a3, a4, a5] st mem := ke_icmp_eq dX5_slightsOf_27 rfl
theorem eX5_slightsOf_30 : ev X m_X5_slightsOf 30 [a0, a1, a2, a3, a4, vI x] st mem = ev X m_X5_slightsOf 32 [a0, a1, a2, a3, a4, vI x] (vI x :: st) mem := ke_iload rfl dX5_slightsOf_30
theorem eX5_slightsOf_32 : ev X m_X5_slightsOf 32 [vR r, a1, a2, a3, a4, a5] st mem = ev X m_X5_slightsOf 33 [vR r, a1, a2, a3, a4, a5] (vR r :: st) mem := ke_aload_n rfl dX5_slightsOf_32
theorem eX5_slightsOf_33 : ev X m_X5_slightsOf 33 [a0, a1, a2, a3, a4, a5] (vR r :: st) mem = evb X (fget mem r 5 11) m_X5_slightsOf 36 [a0, a1, a2, a3, a4, a5] st mem := ke_getf rfl dX5_slightsOf_33
theorem eX5_slightsOf_36 : ev X m_X5_slightsOf 36 [a0, a1, a2, a3, a4, a5] (vI y :: vI x :: st) mem = if x < y then ev X m_X5_slightsOf 43 [a0, a1, a2, a3, a4, a5] st mem else ev X m_X5_slightsOf 39 [a0, a1, a2, a3, a4, a5] st mem := ke_icmp_lt dX5_slightsOf_36 rfl
theorem eX5_slightsOf_39 : ev X m_X5_slightsOf 39 [a0, a1, a2, a3, a4, a5] st mem = ev X m_X5_slightsOf 42 [a0, a1, a2, a3, a4, a5] (vI 1000 :: st) mem := ke_sipush (by decide) dX5_slightsOf_39
theorem eX5_slightsOf_42 : ev X m_X5_slightsOf 42 [a0, a1, a2, a3, a4, a5] [vI x] mem = some (some (vI x), mem) := ke_ireturn dX5_slightsOf_42 rfl
theorem eX5_slightsOf_43 : ev X m_X5_slightsOf 43 [a0, a1, a2, vI x, a4, a5] st mem = ev X m_X5_slightsOf 44 [a0, a1, a2, vI x, a4, a5] (vI x :: st) mem := ke_iload_n rfl dX5_slightsOf_43
theorem eX5_slightsOf_44 : ev X m_X5_slightsOf 44 [a0, a1, a2, a3, a4, vI x] st mem = ev X m_X5_slightsOf 46 [a0, a1, a2, a3, a4, vI x] (vI x :: st) mem := ke_iload rfl dX5_slightsOf_44
theorem eX5_slightsOf_46 : ev X m_X5_slightsOf 46 [a0, a1, a2, a3, a4, a5] (vI x :: st) mem = if x < 0 then ev X m_X5_slightsOf 53 [a0, a1, a2, a3, a4, a5] st mem else ev X m_X5_slightsOf 49 [a0, a1, a2, a3, a4, a5] st mem := ke_if_lt dX5_slightsOf_46 rfl
theorem eX5_slightsOf_49 : ev X m_X5_slightsOf 49 [a0, a1, a2, a3, a4, a5] st mem = ev X m_X5_slightsOf 50 [a0, a1, a2, a3, a4, a5] (vI 1 :: st) mem := ke_iconst (by decide) dX5_slightsOf_49
theorem eX5_slightsOf_50 : ev X m_X5_slightsOf 50 [a0, a1, a2, a3, a4, a5] st mem = ev X m_X5_slightsOf 54 [a0, a1, a2, a3, a4, a5] st mem := ke_goto dX5_slightsOf_50 rfl
theorem eX5_slightsOf_53 : ev X m_X5_slightsOf 53 [a0, a1, a2, a3, a4, a5] st mem = ev X m_X5_slightsOf 54 [a0, a1, a2, a3, a4, a5] (vI 0 :: st) mem := ke_iconst (by decide) dX5_slightsOf_53
theorem eX5_slightsOf_54 : ev X m_X5_slightsOf 54 [a0, a1, a2, a3, a4, a5] (vI y :: vI x :: st) mem = ev X m_X5_slightsOf 55 [a0, a1, a2, a3, a4, a5] (vI (w32 (x + y)) :: st) mem := ke_iadd dX5_slightsOf_54
theorem eX5_slightsOf_55 : ev X m_X5_slightsOf 55 [a0, a1, a2, a3, a4, a5] (vI x :: st) mem = ev X m_X5_slightsOf 56 [a0, a1, a2, vI x, a4, a5] st mem := ke_istore_n (Nat.le_of_ble_eq_true rfl) rfl dX5_slightsOf_55
theorem eX5_slightsOf_56 : ev X m_X5_slightsOf 56 [a0, a1, a2, a3, vI x, a5] st mem = ev X m_X5_slightsOf 58 [a0, a1, a2, a3, vI x, a5] (vI x :: st) mem := ke_iload rfl dX5_slightsOf_56
theorem eX5_slightsOf_58 : ev X m_X5_slightsOf 58 [a0, a1, a2, a3, a4, a5] st mem = ev X m_X5_slightsOf 60 [a0, a1, a2, a3, a4, a5] (vI 7 :: st) mem := ke_bipush (by decide) dX5_slightsOf_58
theorem eX5_slightsOf_60 : ev X m_X5_slightsOf 60 [a0, a1, a2, a3, a4, a5] (vI y :: vI x :: st) mem = if y = 0 then none else ev X m_X5_slightsOf 61 [a0, a1, a2, a3, a4, a5] (vI (w32 (x.tdiv y)) :: st) mem := ke_idiv dX5_slightsOf_60
theorem eX5_slightsOf_61 : ev X m_X5_slightsOf 61 [a0, a1, a2, a3, a4, a5] (vI x :: st) mem = ev X m_X5_slightsOf 63 [a0, a1, a2, a3, vI x, a5] st mem := ke_istore (Nat.le_of_ble_eq_true rfl) rfl dX5_slightsOf_61
theorem eX5_slightsOf_63 : ev X m_X5_slightsOf 63 [a0, a1, a2, a3, a4, a5] st mem = ev X m_X5_slightsOf 5 [a0, a1, a2, a3, a4, a5] st mem := ke_goto dX5_slightsOf_63 rfl
theorem eX5_slightsOf_66 : ev X m_X5_slightsOf 66 [a0, a1, a2, vI x, a4, a5] st mem = ev X m_X5_slightsOf 67 [a0, a1, a2, vI x, a4, a5] (vI x :: st) mem := ke_iload_n rfl dX5_slightsOf_66
theorem eX5_slightsOf_67 : ev X m_X5_slightsOf 67 [a0, a1, a2, a3, a4, a5] [vI x] mem = some (some (vI x), mem) := ke_ireturn dX5_slightsOf_67 rfl
theorem eX5_bringsIn_0 : ev X m_X5_bringsIn 0 [vR r, a1, a2, a3, a4, a5] st mem = ev X m_X5_bringsIn 1 [vR r, a1, a2, a3, a4, a5] (vR r :: st) mem := ke_aload_n rfl dX5_bringsIn_0
theorem eX5_bringsIn_1 : ev X m_X5_bringsIn 1 [a0, a1, a2, a3, a4, a5] (vR r :: []) mem = evc X (gR mem r 5 (ev X m_X5_changes 0 [vR r] [] mem)) m_X5_bringsIn 4 [a0, a1, a2, a3, a4, a5] [] := ke_callV (m' := m_X5_changes) (as := []) (n := 0) (rest := []) dX5_bringsIn_1 rfl rfl rfl rfl rfl rfl (Nat.le_of_ble_eq_true rfl) (Nat.le_of_ble_eq_true rfl) (Nat.le_of_ble_eq_true rfl) rfl
theorem eX5_bringsIn_4 : ev X m_X5_bringsIn 4 [a0, a1, vI x, a3, a4, a5] st mem = ev X m_X5_bringsIn 5 [a0, a1, vI x, a3, a4, a5] (vI x :: st) mem := ke_iload_n rfl dX5_bringsIn_4
theorem eX5_bringsIn_5 : ev X m_X5_bringsIn 5 [a0, a1, a2, a3, a4, a5] (vI x :: st) mem = ev X m_X5_bringsIn 7 [a0, a1, a2, a3, vI x, a5] st mem := ke_istore (Nat.le_of_ble_eq_true rfl) rfl dX5_bringsIn_5
theorem eX5_bringsIn_7 : ev X m_X5_bringsIn 7 [a0, a1, a2, a3, vI x, a5] st mem = ev X m_X5_bringsIn 9 [a0, a1, a2, a3, vI x, a5] (vI x :: st) mem := ke_iload rfl dX5_bringsIn_7
theorem eX5_bringsIn_9 : ev X m_X5_bringsIn 9 [a0, a1, a2, a3, a4, a5] (vI x :: st) mem = if 0 < x then ev X m_X5_bringsIn 12 [a0, a1, a2, a3, a4, a5] st mem else ev X m_X5_bringsIn 60 [a0, a1, a2, a3, a4, a5] st mem := ke_if_le dX5_bringsIn_9 rfl
theorem eX5_bringsIn_12 : ev X m_X5_bringsIn 12 [a0, a1, a2, a3, vI x, a5] st mem = ev X m_X5_bringsIn 14 [a0, a1, a2, a3, vI x, a5] (vI x :: st) mem := ke_iload rfl dX5_bringsIn_12
theorem eX5_bringsIn_14 : ev X m_X5_bringsIn 14 [a0, a1, a2, a3, a4, a5] st mem = ev X m_X5_bringsIn 16 [a0, a1, a2, a3, a4, a5] (vI 7 :: st) mem := ke_bipush (by decide) dX5_bringsIn_14
theorem eX5_bringsIn_16 : ev X m_X5_bringsIn 16 [a0, a1, a2, a3, a4, a5] (vI y :: vI x :: st) mem = if y = 0 then none else ev X m_X5_bringsIn 17 [a0, a1, a2, a3, a4, a5] (vI (w32 (x.tmod y)) :: st) mem := ke_irem dX5_bringsIn_16
theorem eX5_bringsIn_17 : ev X m_X5_bringsIn 17 [a0, a1, a2, a3, a4, a5] st mem = ev X m_X5_bringsIn 18 [a0, a1, a2, a3, a4, a5] (vI 1 :: st) mem := ke_iconst (by decide) dX5_bringsIn_17
theorem eX5_bringsIn_18 : ev X m_X5_bringsIn 18 [a0, a1, a2, a3, a4, a5] (vI y :: vI x :: st) mem = ev X m_X5_bringsIn 19 [a0, a1, a2, a3, a4, a5] (vI (w32 (x - y)) :: st) mem := ke_isub dX5_bringsIn_18
theorem eX5_bringsIn_19 : ev X m_X5_bringsIn 19 [a0, a1, a2, a3, a4, a5] (vI x :: st) mem = ev X m_X5_bringsIn 21 [a0, a1, a2, a3, a4, vI x] st mem := ke_istore (Nat.le_of_ble_eq_true rfl) rfl dX5_bringsIn_19
theorem eX5_bringsIn_21 : ev X m_X5_bringsIn 21 [a0, a1, a2, a3, a4, vI x] st mem = ev X m_X5_bringsIn 23 [a0, a1, a2, a3, a4, vI x] (vI x :: st) mem := ke_iload rfl dX5_bringsIn_21
theorem eX5_bringsIn_23 : ev X m_X5_bringsIn 23 [a0, a1, a2, a3, a4, a5] (vI x :: st) mem = if x < 0 then ev X m_X5_bringsIn 50 [a0, a1, a2, a3, a4, a5] st mem else ev X m_X5_bringsIn 26 [a0, a1, a2, a3, a4, a5] st mem := ke_if_lt dX5_bringsIn_23 rfl
theorem eX5_bringsIn_26 : ev X m_X5_bringsIn 26 [a0, a1, a2, a3, a4, vI x] st mem = ev X m_X5_bringsIn 28 [a0, a1, a2, a3, a4, vI x] (vI x :: st) mem := ke_iload rfl dX5_bringsIn_26
theorem eX5_bringsIn_28 : ev X m_X5_bringsIn 28 [vR r, a1, a2, a3, a4, a5] st mem = ev X m_X5_bringsIn 29 [vR r, a1, a2, a3, a4, a5] (vR r :: st) mem := ke_aload_n rfl dX5_bringsIn_28
theorem eX5_bringsIn_29 : ev X m_X5_bringsIn 29 [a0, a1, a2, a3, a4, a5] (vR r :: st) mem = evb X (fget mem r 5 6) m_X5_bringsIn 32 [a0, a1, a2, a3, a4, a5] st mem := ke_getf rfl dX5_bringsIn_29
theorem eX5_bringsIn_32 : ev X m_X5_bringsIn 32 [a0, vI x, a2, a3, a4, a5] st mem = ev X m_X5_bringsIn 33 [a0, vI x, a2, a3, a4, a5] (vI x :: st) mem := ke_iload_n rfl dX5_bringsIn_32
theorem eX5_bringsIn_33 : ev X m_X5_bringsIn 33 [a0, a1, a2, a3, a4, a5] (vI x :: vR r :: st) mem = evb X (aget mem r x) m_X5_bringsIn 34 [a0, a1, a2, a3, a4, a5] st mem := ke_iaload dX5_bringsIn_33
theorem eX5_bringsIn_34 : ev X m_X5_bringsIn 34 [a0, a1, a2, a3, a4, a5] (vI y :: vI x :: st) mem = if x = y then ev X m_X5_bringsIn 50 [a0, a1, a2, a3, a4, a5] st mem else ev X m_X5_bringsIn 37 [a0, a1, a2, a3, a4, a5] st mem := ke_icmp_eq dX5_bringsIn_34 rfl
theorem eX5_bringsIn_37 : ev X m_X5_bringsIn 37 [vR r, a1, a2, a3, a4, a5] st mem = ev X m_X5_bringsIn 38 [vR r, a1, a2, a3, a4, a5] (vR r :: st) mem := ke_aload_n rfl dX5_bringsIn_37
theorem eX5_bringsIn_38 : ev X m_X5_bringsIn 38 [a0, a1, a2, a3, a4, vI x] st mem = ev X m_X5_bringsIn 40 [a0, a1, a2, a3, a4, vI x] (vI x :: st) mem := ke_iload rfl dX5_bringsIn_38
theorem eX5_bringsIn_40 : ev X m_X5_bringsIn 40 [vR r, a1, a2, a3, a4, a5] st mem = ev X m_X5_bringsIn 41 [vR r, a1, a2, a3, a4, a5] (vR r :: st) mem := ke_aload_n rfl dX5_bringsIn_40
theorem eX5_bringsIn_41 : ev X m_X5_bringsIn 41 [a0, a1, a2, a3, a4, a5] (vR r :: st) mem = evb X (fget mem r 5 6) m_X5_bringsIn 44 [a0, a1, a2, a3, a4, a5] st mem := ke_getf rfl dX5_bringsIn_41
theorem eX5_bringsIn_44 : ev X m_X5_bringsIn 44 [a0, vI x, a2, a3, a4, a5] st mem = ev X m_X5_bringsIn 45 [a0, vI x, a2, a3, a4, a5] (vI x :: st) mem := ke_iload_n rfl dX5_bringsIn_44
theorem eX5_bringsIn_45 : ev X m_X5_bringsIn 45 [a0, a1, a2, a3, a4, a5] (vI x :: vR r :: st) mem = evb X (aget mem r x) m_X5_bringsIn 46 [a0, a1, a2, a3, a4, a5] st mem := ke_iaload dX5_bringsIn_45
theorem eX5_bringsIn_46 : ev X m_X5_bringsIn 46 [a0, a1, a2, a3, a4, a5] st mem = ev X m_X5_bringsIn 47 [a0, a1, a2, a3, a4, a5] (vI 1 :: st) mem := ke_iconst (by decide) dX5_bringsIn_46
theorem eX5_bringsIn_47 : ev X m_X5_bringsIn 47 [a0, a1, a2, a3, a4, a5] (vI n2 :: vI n1 :: vI n0 :: vR r :: []) mem = evc X (gR mem r 5 (ev X m_X5_slighted 0 [vR r, vI n0, vI n1, vI n2] [] mem)) m_X5_bringsIn 50 [a0, a1, a2, a3, a4, a5] [] := ke_callV (m' := m_X5_slighted) (as := [vI n0, vI n1, vI n2]) (n := 3) (rest := []) dX5_bringsIn_47 rfl rfl rfl rfl rfl rfl (Nat.le_of_ble_eq_true rfl) (Nat.le_of_ble_eq_true rfl) (Nat.le_of_ble_eq_true rfl) rfl
theorem eX5_bringsIn_50 : ev X m_X5_bringsIn 50 [a0, a1, a2, a3, vI x, a5] st mem = ev X m_X5_bringsIn 52 [a0, a1, a2, a3, vI x, a5] (vI x :: st) mem := ke_iload rfl dX5_bringsIn_50
theorem eX5_bringsIn_52 : ev X m_X5_bringsIn 52 [a0, a1, a2, a3, a4, a5] st mem = ev X m_X5_bringsIn 54 [a0, a1, a2, a3, a4, a5] (vI 7 :: st) mem := ke_bipush (by decide) dX5_bringsIn_52
theorem eX5_bringsIn_54 : ev X m_X5_bringsIn 54 [a0, a1, a2, a3, a4, a5] (vI y :: vI x :: st) mem = if y = 0 then none else ev X m_X5_bringsIn 55 [a0, a1, a2, a3, a4, a5] (vI (w32 (x.tdiv y)) :: st) mem := ke_idiv dX5_bringsIn_54
theorem eX5_bringsIn_55 : ev X m_X5_bringsIn 55 [a0, a1, a2, a3, a4, a5] (vI x :: st) mem = ev X m_X5_bringsIn 57 [a0, a1, a2, a3, vI x, a5] st mem := ke_istore (Nat.le_of_ble_eq_true rfl) rfl dX5_bringsIn_55
theorem eX5_bringsIn_57 : ev X m_X5_bringsIn 57 [a0, a1, a2, a3, a4, a5] st mem = ev X m_X5_bringsIn 7 [a0, a1, a2, a3, a4, a5] st mem := ke_goto dX5_bringsIn_57 rfl
theorem eX5_bringsIn_60 : ev X m_X5_bringsIn 60 [vR r, a1, a2, a3, a4, a5] st mem = ev X m_X5_bringsIn 61 [vR r, a1, a2, a3, a4, a5] (vR r :: st) mem := ke_aload_n rfl dX5_bringsIn_60
theorem eX5_bringsIn_61 : ev X m_X5_bringsIn 61 [a0, vI x, a2, a3, a4, a5] st mem = ev X m_X5_bringsIn 62 [a0, vI x, a2, a3, a4, a5] (vI x :: st) mem := ke_iload_n rfl dX5_bringsIn_61
theorem eX5_bringsIn_62 : ev X m_X5_bringsIn 62 [a0, a1, a2, a3, a4, a5] (vI n0 :: vR r :: []) mem = evc X (gR mem r 5 (ev X m_X5_lateOf 0 [vR r, vI n0, vS] [] mem)) m_X5_bringsIn 65 [a0, a1, a2, a3, a4, a5] [] := ke_callV (m' := m_X5_lateOf) (as := [vI n0]) (n := 1) (rest := []) dX5_bringsIn_62 rfl rfl rfl rfl rfl rfl (Nat.le_of_ble_eq_true rfl) (Nat.le_of_ble_eq_true rfl) (Nat.le_of_ble_eq_true rfl) rfl
theorem eX5_bringsIn_65 : ev X m_X5_bringsIn 65 [a0, a1, a2, vI x, a4, a5] st mem = ev X m_X5_bringsIn 66 [a0, a1, a2, vI x, a4, a5] (vI x :: st) mem := ke_iload_n rfl dX5_bringsIn_65
theorem eX5_bringsIn_66 : ev X m_X5_bringsIn 66 [a0, a1, a2, a3, a4, a5] (vI y :: vI x :: st) mem = if y < x then ev X m_X5_bringsIn 73 [a0, a1, a2, a3, a4, a5] st mem else ev X m_X5_bringsIn 69 [a0, a1, a2, a3, a4, a5] st mem := ke_icmp_gt dX5_bringsIn_66 rfl
theorem eX5_bringsIn_69 : ev X m_X5_bringsIn 69 [a0, a1, a2, a3, a4, a5] st mem = ev X m_X5_bringsIn 70 [a0, a1, a2, a3, a4, a5] (vI 1 :: st) mem := ke_iconst (by decide) dX5_bringsIn_69
theorem eX5_bringsIn_70 : ev X m_X5_bringsIn 70 [a0, a1, a2, a3, a4, a5] st mem = ev X m_X5_bringsIn 74 [a0, a1, a2, a3, a4, a5] st mem := ke_goto dX5_bringsIn_70 rfl
theorem eX5_bringsIn_73 : ev X m_X5_bringsIn 73 [a0, a1, a2, a3, a4, a5] st mem = ev X m_X5_bringsIn 74 [a0, a1, a2, a3, a4, a5] (vI 0 :: st) mem := ke_iconst (by decide) dX5_bringsIn_73
theorem eX5_bringsIn_74 : ev X m_X5_bringsIn 74 [a0, a1, a2, a3, a4, a5] (vI x :: st) mem = ev X m_X5_bringsIn 76 [a0, a1, a2, a3, vI x, a5] st mem := ke_istore (Nat.le_of_ble_eq_true rfl) rfl dX5_bringsIn_74
theorem eX5_bringsIn_76 : ev X m_X5_bringsIn 76 [vR r, a1, a2, a3, a4, a5] st mem = ev X m_X5_bringsIn 77 [vR r, a1, a2, a3, a4, a5] (vR r :: st) mem := ke_aload_n rfl dX5_bringsIn_76
theorem eX5_bringsIn_77 : ev X m_X5_bringsIn 77 [a0, a1, a2, a3, a4, a5] (vR r :: []) mem = evc X (gR mem r 5 (ev X m_X5_changesBack 0 [vR r] [] mem)) m_X5_bringsIn 80 [a0, a1, a2, a3, a4, a5] [] := ke_callV (m' := m_X5_changesBack) (as := []) (n := 0) (rest := []) dX5_bringsIn_77 rfl rfl rfl rfl rfl rfl (Nat.le_of_ble_eq_true rfl) (Nat.le_of_ble_eq_true rfl) (Nat.le_of_ble_eq_true rfl) rfl
theorem eX5_bringsIn_80 : ev X m_X5_bringsIn 80 [a0, a1, a2, a3, vI x, a5] st mem = ev X m_X5_bringsIn 82 [a0, a1, a2, a3, vI x, a5] (vI x :: st) mem := ke_iload rfl dX5_bringsIn_80
theorem eX5_bringsIn_82a : ev X m_X5_bringsIn 82 [a0, a1, a2, a3, a4, a5] [vI 1] mem = some (some (vI 1), mem) := ke_zreturn dX5_bringsIn_82 rfl rfl
theorem eX5_bringsIn_82b : ev X m_X5_bringsIn 82 [a0, a1, a2, a3, a4, a5] [vI 0] mem = some (some (vI 0), mem) := ke_zreturn dX5_bringsIn_82 rfl rfl
theorem eX5_bringsIn_82c {c : Prop} [Decidable c] : ev X m_X5_bringsIn 82 [a0, a1, a2, a3, a4, a5] [vI (if c then 1 else 0)] mem = some (some (vI (if c then 1 else 0)), mem) := ke_zreturn dX5_bringsIn_82 rfl (by split <;> rfl)
theorem eX5_changes_0 : ev X m_X5_changes 0 [vR r] st mem = ev X m_X5_changes 1 [vR r] (vR r :: st) mem := ke_aload_n rfl dX5_changes_0
theorem eX5_changes_1 : ev X m_X5_changes 1 [a0] st mem = ev X m_X5_changes 2 [a0] (vI 1 :: st) mem := ke_iconst (by decide) dX5_changes_1
theorem eX5_changes_2 : ev X m_X5_changes 2 [a0] st mem = ev X m_X5_changes 3 [a0] (vI 1 :: st) mem := ke_iconst (by decide) dX5_changes_2
theorem eX5_changes_3 : ev X m_X5_changes 3 [a0] (vI n1 :: vI n0 :: vR r :: []) mem = evc X (gR mem r 5 (ev X m_X5_passesAll 0 [vR r, vI n0, vI n1] [] mem)) m_X5_changes 6 [a0] [] := ke_callV (m' := m_X5_passesAll) (as := [vI n0, vI n1]) (n := 2) (rest := []) dX5_changes_3 rfl rfl rfl rfl rfl rfl (Nat.le_of_ble_eq_true rfl) (Nat.le_of_ble_eq_true rfl) (Nat.le_of_ble_eq_true rfl) rfl
theorem eX5_changes_6 : ev X m_X5_changes 6 [a0] [] mem = some (none, mem) := ke_return dX5_changes_6 rfl
theorem eX5_changesBack_0 : ev X m_X5_changesBack 0 [vR r] st mem = ev X m_X5_changesBack 1 [vR r] (vR r :: st) mem := ke_aload_n rfl dX5_changesBack_0
theorem eX5_changesBack_1 : ev X m_X5_changesBack 1 [a0] st mem = ev X m_X5_changesBack 2 [a0] (vI 1 :: st) mem := ke_iconst (by decide) dX5_changesBack_1
theorem eX5_changesBack_2 : ev X m_X5_changesBack 2 [a0] st mem = ev X m_X5_changesBack 3 [a0] (vI 0 :: st) mem := ke_iconst (by decide) dX5_changesBack_2
theorem eX5_changesBack_3 : ev X m_X5_changesBack 3 [a0] (vI n1 :: vI n0 :: vR r :: []) mem = evc X (gR mem r 5 (ev X m_X5_passesAll 0 [vR r, vI n0, vI n1] [] mem)) m_X5_changesBack 6 [a0] [] := ke_callV (m' := m_X5_passesAll) (as := [vI n0, vI n1]) (n := 2) (rest := []) dX5_changesBack_3 rfl rfl rfl rfl rfl rfl (Nat.le_of_ble_eq_true rfl) (Nat.le_of_ble_eq_true rfl) (Nat.le_of_ble_eq_true rfl) rfl
theorem eX5_changesBack_6 : ev X m_X5_changesBack 6 [a0] [] mem = some (none, mem) := ke_return dX5_changesBack_6 rfl
theorem eX5_makeUp_0 : ev X m_X5_makeUp 0 [vR r, a1, a2, a3, a4, a5, a6] st mem = ev X m_X5_makeUp 1 [vR r, a1, a2, a3, a4, a5, a6] (vR r :: st) mem := ke_aload_n rfl dX5_makeUp_0
theorem eX5_makeUp_1 : ev X m_X5_makeUp 1 [a0, vI x, a2, a3, a4, a5, a6] st mem = ev X m_X5_makeUp 2 [a0, vI x, a2, a3, a4, a5, a6] (vI x :: st) mem := ke_iload_n rfl dX5_makeUp_1
theorem eX5_makeUp_2 : ev X m_X5_makeUp 2 [a0, a1, a2, a3, a4, a5, a6] (vI n0 :: vR r :: []) mem = evc X (gR mem r 5 (ev X m_X5_isParcel 0 [vR r, vI n0] [] mem)) m_X5_makeUp 5 [a0, a1, a2, a3, a4, a5, a6] [] := ke_callV (m' := m_X5_isParcel) (as := [vI n0]) (n := 1) (rest := []) dX5_makeUp_2 rfl rfl rfl rfl rfl rfl (Nat.le_of_ble_eq_true rfl) (Nat.le_of_ble_eq_true rfl) (Nat.le_of_ble_eq_true rfl) rfl
theorem eX5_makeUp_5 : ev X m_X5_makeUp 5 [a0, a1, a2, a3, a4, a5, a6] (vI x :: st) mem = if x = 0 then ev X m_X5_makeUp 8 [a0, a1, a2, a3, a4, a5, a6] st mem else ev X m_X5_makeUp 12 [a0, a1, a2, a3, a4, a5, a6] st mem := ke_if_ne dX5_makeUp_5 rfl
theorem eX5_makeUp_8 : ev X m_X5_makeUp 8 [a0, a1, a2, a3, a4, a5, a6] st mem = ev X m_X5_makeUp 9 [a0, a1, a2, a3, a4, a5, a6] (vI (-1) :: st) mem := ke_iconst (by decide) dX5_makeUp_8
theorem eX5_makeUp_9 : ev X m_X5_makeUp 9 [a0, a1, a2, a3, a4, a5, a6] st mem = ev X m_X5_makeUp 27 [a0, a1, a2, a3, a4, a5, a6] st mem := ke_goto dX5_makeUp_9 rfl
theorem eX5_makeUp_12 : ev X m_X5_makeUp 12 [vR r, a1, a2, a3, a4, a5, a6] st mem = ev X m_X5_makeUp 13 [vR r, a1, a2, a3, a4, a5, a6] (vR r :: st) mem := ke_aload_n rfl dX5_makeUp_12
theorem eX5_makeUp_13 : ev X m_X5_makeUp 13 [a0, a1, a2, a3, a4, a5, a6] (vR r :: st) mem = evb X (fget mem r 5 8) m_X5_makeUp 16 [a0, a1, a2, a3, a4, a5, a6] st mem := ke_getf rfl dX5_makeUp_13
theorem eX5_makeUp_16 : ev X m_X5_makeUp 16 [a0, vI x, a2, a3, a4, a5, a6] st mem = ev X m_X5_makeUp 17 [a0, vI x, a2, a3, a4, a5, a6] (vI x :: st) mem := ke_iload_n rfl dX5_makeUp_16
theorem eX5_makeUp_17 : ev X m_X5_makeUp 17 [a0, a1, a2, a3, a4, a5, a6] (vI x :: vR r :: st) mem = evb X (aget mem r x) m_X5_makeUp 18 [a0, a1, a2, a3, a4, a5, a6] st mem := ke_iaload dX5_makeUp_17
theorem eX5_makeUp_18 : ev X m_X5_makeUp 18 [a0, a1, a2, a3, a4, a5, a6] (vI x :: st) mem = if x = 0 then ev X m_X5_makeUp 26 [a0, a1, a2, a3, a4, a5, a6] st mem else ev X m_X5_makeUp 21 [a0, a1, a2, a3, a4, a5, a6] st mem := ke_if_eq dX5_makeUp_18 rfl
theorem eX5_makeUp_21 : ev X m_X5_makeUp 21 [a0, a1, a2, a3, a4, a5, a6] st mem = ev X m_X5_makeUp 23 [a0, a1, a2, a3, a4, a5, a6] (vI (-3) :: st) mem := ke_bipush (by decide) dX5_makeUp_21
theorem eX5_makeUp_23 : ev X m_X5_makeUp 23 [a0, a1, a2, a3, a4, a5, a6] st mem = ev X m_X5_makeUp 27 [a0, a1, a2, a3, a4, a5, a6] st mem := ke_goto dX5_makeUp_23 rfl
theorem eX5_makeUp_26 : ev X m_X5_makeUp 26 [a0, a1, a2, a3, a4, a5, a6] st mem = ev X m_X5_makeUp 27 [a0, a1, a2, a3, a4, a5, a6] (vI 0 :: st) mem := ke_iconst (by decide) dX5_makeUp_26
theorem eX5_makeUp_27 : ev X m_X5_makeUp 27 [a0, a1, a2, a3, a4, a5, a6] (vI x :: st) mem = ev X m_X5_makeUp 28 [a0, a1, vI x, a3, a4, a5, a6] st mem := ke_istore_n (Nat.le_of_ble_eq_true rfl) rfl dX5_makeUp_27
theorem eX5_makeUp_28 : ev X m_X5_makeUp 28 [a0, a1, vI x, a3, a4, a5, a6] st mem = ev X m_X5_makeUp 29 [a0, a1, vI x, a3, a4, a5, a6] (vI x :: st) mem := ke_iload_n rfl dX5_makeUp_28
theorem eX5_makeUp_29 : ev X m_X5_makeUp 29 [a0, a1, a2, a3, a4, a5, a6] (vI x :: st) mem = if x = 0 then ev X m_X5_makeUp 38 [a0, a1, a2, a3, a4, a5, a6] st mem else ev X m_X5_makeUp 32 [a0, a1, a2, a3, a4, a5, a6] st mem := ke_if_eq dX5_makeUp_29 rfl
theorem eX5_makeUp_32 : ev X m_X5_makeUp 32 [vR r, a1, a2, a3, a4, a5, a6] st mem = ev X m_X5_makeUp 33 [vR r, a1, a2, a3, a4, a5, a6] (vR r :: st) mem := ke_aload_n rfl dX5_makeUp_32
theorem eX5_makeUp_33 : ev X m_X5_makeUp 33 [a0, a1, vI x, a3, a4, a5, a6] st mem = ev X m_X5_makeUp 34 [a0, a1, vI x, a3, a4, a5, a6] (vI x :: st) mem := ke_iload_n rfl dX5_makeUp_33
theorem eX5_makeUp_34 : ev X m_X5_makeUp 34 [a0, a1, a2, a3, a4, a5, a6] (vI n0 :: vR r :: []) mem = evc X (gR mem r 5 (ev X m_X5_no 0 [vR r, vI n0] [] mem)) m_X5_makeUp 37 [a0, a1, a2, a3, a4, a5, a6] [] := ke_callV (m' := m_X5_no) (as := [vI n0]) (n := 1) (rest := []) dX5_makeUp_34 rfl rfl rfl rfl rfl rfl (Nat.le_of_ble_eq_true rfl) (Nat.le_of_ble_eq_true rfl) (Nat.le_of_ble_eq_true rfl) rfl
theorem eX5_makeUp_37 : ev X m_X5_makeUp 37 [a0, a1, a2, a3, a4, a5, a6] [vI x] mem = some (some (vI x), mem) := ke_ireturn dX5_makeUp_37 rfl
theorem eX5_makeUp_38 : ev X m_X5_makeUp 38 [a0, a1, a2, a3, a4, a5, a6] st mem = ev X m_X5_makeUp 40 [a0, a1, a2, a3, a4, a5, a6] (vI (-9) :: st) mem := ke_bipush (by decide) dX5_makeUp_38
theorem eX5_makeUp_40 : ev X m_X5_makeUp 40 [a0, a1, a2, a3, a4, a5, a6] (vI x :: st) mem = ev X m_X5_makeUp 41 [a0, a1, a2, vI x, a4, a5, a6] st mem := ke_istore_n (Nat.le_of_ble_eq_true rfl) rfl dX5_makeUp_40
theorem eX5_makeUp_41 : ev X m_X5_makeUp 41 [vR r, a1, a2, a3, a4, a5, a6] st mem = ev X m_X5_makeUp 42 [vR r, a1, a2, a3, a4, a5, a6] (vR r :: st) mem := ke_aload_n rfl dX5_makeUp_41
theorem eX5_makeUp_42 : ev X m_X5_makeUp 42 [a0, vI x, a2, a3, a4, a5, a6] st mem = ev X m_X5_makeUp 43 [a0, vI x, a2, a3, a4, a5, a6] (vI x :: st) mem := ke_iload_n rfl dX5_makeUp_42
theorem eX5_makeUp_43 : ev X m_X5_makeUp 43 [a0, a1, a2, a3, a4, a5, a6] (vI n0 :: vR r :: []) mem = evc X (gR mem r 5 (ev X m_X5_lateOf 0 [vR r, vI n0, vS] [] mem)) m_X5_makeUp 46 [a0, a1, a2, a3, a4, a5, a6] [] := ke_callV (m' := m_X5_lateOf) (as := [vI n0]) (n := 1) (rest := []) dX5_makeUp_43 rfl rfl rfl rfl rfl rfl (Nat.le_of_ble_eq_true rfl) (Nat.le_of_ble_eq_true rfl) (Nat.le_of_ble_eq_true rfl) rfl
theorem eX5_makeUp_46 : ev X m_X5_makeUp 46 [a0, a1, a2, a3, a4, a5, a6] (vI x :: st) mem = ev X m_X5_makeUp 48 [a0, a1, a2, a3, vI x, a5, a6] st mem := ke_istore (Nat.le_of_ble_eq_true rfl) rfl dX5_makeUp_46
theorem eX5_makeUp_48 : ev X m_X5_makeUp 48 [a0, a1, a2, a3, a4, a5, a6] st mem = ev X m_X5_makeUp 49 [a0, a1, a2, a3, a4, a5, a6] (vI 0 :: st) mem := ke_iconst (by decide) dX5_makeUp_48
theorem eX5_makeUp_49 : ev X m_X5_makeUp 49 [a0, a1, a2, a3, a4, a5, a6] (vI x :: st) mem = ev X m_X5_makeUp 51 [a0, a1, a2, a3, a4, vI x, a6] st mem := ke_istore (Nat.le_of_ble_eq_true rfl) rfl dX5_makeUp_49
theorem eX5_makeUp_51 : ev X m_X5_makeUp 51 [a0, a1, a2, a3, a4, vI x, a6] st mem = ev X m_X5_makeUp 53 [a0, a1, a2, a3, a4, vI x, a6] (vI x :: st) mem := ke_iload rfl dX5_makeUp_51
theorem eX5_makeUp_53 : ev X m_X5_makeUp 53 [vR r, a1, a2, a3, a4, a5, a6] st mem = ev X m_X5_makeUp 54 [vR r, a1, a2, a3, a4, a5, a6] (vR r :: st) mem := ke_aload_n rfl dX5_makeUp_53
theorem eX5_makeUp_54 : ev X m_X5_makeUp 54 [a0, a1, a2, a3, a4, a5, a6] (vR r :: st) mem = evb X (fget mem r 5 11) m_X5_makeUp 57 [a0, a1, a2, a3, a4, a5, a6] st mem := ke_getf rfl dX5_makeUp_54
theorem eX5_makeUp_57 : ev X m_X5_makeUp 57 [a0, a1, a2, a3, a4, a5, a6] (vI y :: vI x :: st) mem = if x < y then ev X m_X5_makeUp 60 [a0, a1, a2, a3, a4, a5, a6] st mem else ev X m_X5_makeUp 108 [a0, a1, a2, a3, a4, a5, a6] st mem := ke_icmp_ge dX5_makeUp_57 rfl
theorem eX5_makeUp_60 : ev X m_X5_makeUp 60 [a0, a1, a2, a3, a4, vI x, a6] st mem = ev X m_X5_makeUp 62 [a0, a1, a2, a3, a4, vI x, a6] (vI x :: st) mem := ke_iload rfl dX5_makeUp_60
theorem eX5_makeUp_62 : ev X m_X5_makeUp 62 [vR r, a1, a2, a3, a4, a5, a6] st mem = ev X m_X5_makeUp 63 [vR r, a1, a2, a3, a4, a5, a6] (vR r :: st) mem := ke_aload_n rfl dX5_makeUp_62
theorem eX5_makeUp_63 : ev X m_X5_makeUp 63 [a0, a1, a2, a3, a4, a5, a6] (vR r :: st) mem = evb X (fget mem r 5 6) m_X5_makeUp 66 [a0, a1, a2, a3, a4, a5, a6] st mem := ke_getf rfl dX5_makeUp_63
theorem eX5_makeUp_66 : ev X m_X5_makeUp 66 [a0, vI x, a2, a3, a4, a5, a6] st mem = ev X m_X5_makeUp 67 [a0, vI x, a2, a3, a4, a5, a6] (vI x :: st) mem := ke_iload_n rfl dX5_makeUp_66
theorem eX5_makeUp_67 : ev X m_X5_makeUp 67 [a0, a1, a2, a3, a4, a5, a6] (vI x :: vR r :: st) mem = evb X (aget mem r x) m_X5_makeUp 68 [a0, a1, a2, a3, a4, a5, a6] st mem := ke_iaload dX5_makeUp_67
theorem eX5_makeUp_68 : ev X m_X5_makeUp 68 [a0, a1, a2, a3, a4, a5, a6] (vI y :: vI x :: st) mem = if x = y then ev X m_X5_makeUp 71 [a0, a1, a2, a3, a4, a5, a6] st mem else ev X m_X5_makeUp 76 [a0, a1, a2, a3, a4, a5, a6] st mem := ke_icmp_ne dX5_makeUp_68 rfl
theorem eX5_makeUp_71 : ev X m_X5_makeUp 71 [a0, a1, a2, a3, a4, a5, a6] st mem = ev X m_X5_makeUp 73 [a0, a1, a2, a3, a4, a5, a6] (vI (-9) :: st) mem := ke_bipush (by decide) dX5_makeUp_71
theorem eX5_makeUp_73 : ev X m_X5_makeUp 73 [a0, a1, a2, a3, a4, a5, a6] st mem = ev X m_X5_makeUp 83 [a0, a1, a2, a3, a4, a5, a6] st mem := ke_goto dX5_makeUp_73 rfl
theorem eX5_makeUp_76 : ev X m_X5_makeUp 76 [vR r, a1, a2, a3, a4, a5, a6] st mem = ev X m_X5_makeUp 77 [vR r, a1, a2, a3, a4, a5, a6] (vR r :: st) mem := ke_aload_n rfl dX5_makeUp_76
theorem eX5_makeUp_77 : ev X m_X5_makeUp 77 [a0, vI x, a2, a3, a4, a5, a6] st mem = ev X m_X5_makeUp 78 [a0, vI x, a2, a3, a4, a5, a6] (vI x :: st) mem := ke_iload_n rfl dX5_makeUp_77
theorem eX5_makeUp_78 : ev X m_X5_makeUp 78 [a0, a1, a2, a3, a4, vI x, a6] st mem = ev X m_X5_makeUp 80 [a0, a1, a2, a3, a4, vI x, a6] (vI x :: st) mem := ke_iload rfl dX5_makeUp_78
theorem eX5_makeUp_80 : ev X m_X5_makeUp 80 [a0, a1, a2, a3, a4, a5, a6] (vI n1 :: vI n0 :: vR r :: []) mem = evc X (gR mem r 5 (ev X m_X5_latePeace 0 [vR r, vI n0, vI n1, vS] [] mem)) m_X5_makeUp 83 [a0, a1, a2, a3, a4, a5, a6] [] := ke_callV (m' := m_X5_latePeace) (as := [vI n0, vI n1]) (n := 2) (rest := []) dX5_makeUp_80 rfl rfl rfl rfl rfl rfl (Nat.le_of_ble_eq_true rfl) (Nat.le_of_ble_eq_true rfl) (Nat.le_of_ble_eq_true rfl) rfl
theorem eX5_makeUp_83 : ev X m_X5_makeUp 83 [a0, a1, a2, a3, a4, a5, a6] (vI x :: st) mem = ev X m_X5_makeUp 85 [a0, a1, a2, a3, a4, a5, vI x] st mem := ke_istore (Nat.le_of_ble_eq_true rfl) rfl dX5_makeUp_83
theorem eX5_makeUp_85 : ev X m_X5_makeUp 85 [a0, a1, a2, a3, a4, a5, vI x] st mem = ev X m_X5_makeUp 87 [a0, a1, a2, a3, a4, a5, vI x] (vI x :: st) mem := ke_iload rfl dX5_makeUp_85
theorem eX5_makeUp_87 : ev X m_X5_makeUp 87 [a0, a1, a2, a3, vI x, a5, a6] st mem = ev X m_X5_makeUp 89 [a0, a1, a2, a3, vI x, a5, a6] (vI x :: st) mem := ke_iload rfl dX5_makeUp_87
theorem eX5_makeUp_89 : ev X m_X5_makeUp 89 [a0, a1, a2, a3, a4, a5, a6] (vI y :: vI x :: st) mem = if y < x then ev X m_X5_makeUp 95 [a0, a1, a2, a3, a4, a5, a6] st mem else ev X m_X5_makeUp 92 [a0, a1, a2, a3, a4, a5, a6] st mem := ke_icmp_gt dX5_makeUp_89 rfl
theorem eX5_makeUp_92 : ev X m_X5_makeUp 92 [a0, a1, a2, a3, a4, a5, a6] st mem = ev X m_X5_makeUp 102 [a0, a1, a2, a3, a4, a5, a6] st mem := ke_goto dX5_makeUp_92 rfl
theorem eX5_makeUp_95 : ev X m_X5_makeUp 95 [a0, a1, a2, a3, a4, vI x, a6] st mem = ev X m_X5_makeUp 97 [a0, a1, a2, a3, a4, vI x, a6] (vI x :: st) mem := ke_iload rfl dX5_makeUp_95
theorem eX5_makeUp_97 : ev X m_X5_makeUp 97 [a0, a1, a2, a3, a4, a5, a6] (vI x :: st) mem = ev X m_X5_makeUp 98 [a0, a1, a2, vI x, a4, a5, a6] st mem := ke_istore_n (Nat.le_of_ble_eq_true rfl) rfl dX5_makeUp_97
theorem eX5_makeUp_98 : ev X m_X5_makeUp 98 [a0, a1, a2, a3, a4, a5, vI x] st mem = ev X m_X5_makeUp 100 [a0, a1, a2, a3, a4, a5, vI x] (vI x :: st) mem := ke_iload rfl dX5_makeUp_98
theorem eX5_makeUp_100 : ev X m_X5_makeUp 100 [a0, a1, a2, a3, a4, a5, a6] (vI x :: st) mem = ev X m_X5_makeUp 102 [a0, a1, a2, a3, vI x, a5, a6] st mem := ke_istore (Nat.le_of_ble_eq_true rfl) rfl dX5_makeUp_100
theorem eX5_makeUp_102 : ev X m_X5_makeUp 102 [a0, a1, a2, a3, a4, vI x, a6] st mem = ev X m_X5_makeUp 105 [a0, a1, a2, a3, a4, vI (w32 (x + 1)), a6] st mem := ke_iinc rfl (Nat.le_of_ble_eq_true rfl) rfl dX5_makeUp_102
theorem eX5_makeUp_105 : ev X m_X5_makeUp 105 [a0, a1, a2, a3, a4, a5, a6] st mem = ev X m_X5_makeUp 51 [a0, a1, a2, a3, a4, a5, a6] st mem := ke_goto dX5_makeUp_105 rfl
theorem eX5_makeUp_108 : ev X m_X5_makeUp 108 [a0, a1, a2, vI x, a4, a5, a6] st mem = ev X m_X5_makeUp 109 [a0, a1, a2, vI x, a4, a5, a6] (vI x :: st) mem := ke_iload_n rfl dX5_makeUp_108
theorem eX5_makeUp_109 : ev X m_X5_makeUp 109 [a0, a1, a2, a3, a4, a5, a6] [vI x] mem = some (some (vI x), mem) := ke_ireturn dX5_makeUp_109 rfl
theorem eX5_latePeace_0 : ev X m_X5_latePeace 0 [vR r, a1, a2, a3] st mem = ev X m_X5_latePeace 1 [vR r, a1, a2, a3] (vR r :: st) mem := ke_aload_n rfl dX5_latePeace_0
theorem eX5_latePeace_1 : ev X m_X5_latePeace 1 [a0, a1, a2, a3] (vR r :: []) mem = evc X (gR mem r 5 (ev X m_X5_changes 0 [vR r] [] mem)) m_X5_latePeace 4 [a0, a1, a2, a3] [] := ke_callV (m' := m_X5_changes) (as := []) (n := 0) (rest := []) dX5_latePeace_1 rfl rfl rfl rfl rfl rfl (Nat.le_of_ble_eq_true rfl) (Nat.le_of_ble_eq_true rfl) (Nat.le_of_ble_eq_true rfl) rfl
theorem eX5_latePeace_4 : ev X m_X5_latePeace 4 [vR r, a1, a2, a3] st mem = ev X m_X5_latePeace 5 [vR r, a1, a2, a3] (vR r :: st) mem := ke_aload_n rfl dX5_latePeace_4
theorem eX5_latePeace_5 : ev X m_X5_latePeace 5 [a0, a1, vI x, a3] st mem = ev X m_X5_latePeace 6 [a0, a1, vI x, a3] (vI x :: st) mem := ke_iload_n rfl dX5_latePeace_5
theorem eX5_latePeace_6 : ev X m_X5_latePeace 6 [vR r, a1, a2, a3] st mem = ev X m_X5_latePeace 7 [vR r, a1, a2, a3] (vR r :: st) mem := ke_aload_n rfl dX5_latePeace_6
theorem eX5_latePeace_7 : ev X m_X5_latePeace 7 [a0, a1, a2, a3] (vR r :: st) mem = evb X (fget mem r 5 6) m_X5_latePeace 10 [a0, a1, a2, a3] st mem := ke_getf rfl dX5_latePeace_7
theorem eX5_latePeace_10 : ev X m_X5_latePeace 10 [a0, vI x, a2, a3] st mem = ev X m_X5_latePeace 11 [a0, vI x, a2, a3] (vI x :: st) mem := ke_iload_n rfl dX5_latePeace_10
theorem eX5_latePeace_11 : ev X m_X5_latePeace 11 [a0, a1, a2, a3] (vI x :: vR r :: st) mem = evb X (aget mem r x) m_X5_latePeace 12 [a0, a1, a2, a3] st mem := ke_iaload dX5_latePeace_11
theorem eX5_latePeace_12 : ev X m_X5_latePeace 12 [a0, a1, a2, a3] (vI n1 :: vI n0 :: vR r :: []) mem = evc X (gR mem r 5 (ev X m_X5_madeUp 0 [vR r, vI n0, vI n1] [] mem)) m_X5_latePeace 15 [a0, a1, a2, a3] [] := ke_callV (m' := m_X5_madeUp) (as := [vI n0, vI n1]) (n := 2) (rest := []) dX5_latePeace_12 rfl rfl rfl rfl rfl rfl (Nat.le_of_ble_eq_true rfl) (Nat.le_of_ble_eq_true rfl) (Nat.le_of_ble_eq_true rfl) rfl
theorem eX5_latePeace_15 : ev X m_X5_latePeace 15 [vR r, a1, a2, a3] st mem = ev X m_X5_latePeace 16 [vR r, a1, a2, a3] (vR r :: st) mem := ke_aload_n rfl dX5_latePeace_15
theorem eX5_latePeace_16 : ev X m_X5_latePeace 16 [a0, vI x, a2, a3] st mem = ev X m_X5_latePeace 17 [a0, vI x, a2, a3] (vI x :: st) mem := ke_iload_n rfl dX5_latePeace_16
theorem eX5_latePeace_17 : ev X m_X5_latePeace 17 [a0, a1, a2, a3] (vI n0 :: vR r :: []) mem = evc X (gR mem r 5 (ev X m_X5_lateOf 0 [vR r, vI n0, vS] [] mem)) m_X5_latePeace 20 [a0, a1, a2, a3] [] := ke_callV (m' := m_X5_lateOf) (as := [vI n0]) (n := 1) (rest := []) dX5_latePeace_17 rfl rfl rfl rfl rfl rfl (Nat.le_of_ble_eq_true rfl) (Nat.le_of_ble_eq_true rfl) (Nat.le_of_ble_eq_true rfl) rfl
theorem eX5_latePeace_20 : ev X m_X5_latePeace 20 [a0, a1, a2, a3] (vI x :: st) mem = ev X m_X5_latePeace 21 [a0, a1, a2, vI x] st mem := ke_istore_n (Nat.le_of_ble_eq_true rfl) rfl dX5_latePeace_20
theorem eX5_latePeace_21 : ev X m_X5_latePeace 21 [vR r, a1, a2, a3] st mem = ev X m_X5_latePeace 22 [vR r, a1, a2, a3] (vR r :: st) mem := ke_aload_n rfl dX5_latePeace_21
theorem eX5_latePeace_22 : ev X m_X5_latePeace 22 [a0, a1, a2, a3] (vR r :: []) mem = evc X (gR mem r 5 (ev X m_X5_changesBack 0 [vR r] [] mem)) m_X5_latePeace 25 [a0, a1, a2, a3] [] := ke_callV (m' := m_X5_changesBack) (as := []) (n := 0) (rest := []) dX5_latePeace_22 rfl rfl rfl rfl rfl rfl (Nat.le_of_ble_eq_true rfl) (Nat.le_of_ble_eq_true rfl) (Nat.le_of_ble_eq_true rfl) rfl
theorem eX5_latePeace_25 : ev X m_X5_latePeace 25 [a0, a1, a2, vI x] st mem = ev X m_X5_latePeace 26 [a0, a1, a2, vI x] (vI x :: st) mem := ke_iload_n rfl dX5_latePeace_25
theorem eX5_latePeace_26 : ev X m_X5_latePeace 26 [a0, a1, a2, a3] [vI x] mem = some (some (vI x), mem) := ke_ireturn dX5_latePeace_26 rfl
theorem eX5_post_0 : ev X m_X5_post 0 [vR r, a1, a2, a3, a4, a5, a6, a7] st mem = ev X m_X5_post 1 [vR r, a1, a2, a3, a4, a5, a6, a7] (vR r :: st) mem := ke_aload_n rfl dX5_post_0
theorem eX5_post_1 : ev X m_X5_post 1 [a0, vI x, a2, a3, a4, a5, a6, a7] st mem = ev X m_X5_post 2 [a0, vI x, a2, a3, a4, a5, a6, a7] (vI x :: st) mem := ke_iload_n rfl dX5_post_1
theorem eX5_post_2 : ev X m_X5_post 2 [a0, a1, a2, a3, a4, a5, a6, a7] (vI n0 :: vR r :: []) mem = evc X (gR mem r 5 (ev X m_X5_isOne 0 [vR r, vI n0] [] mem)) m_X5_post 5 [a0, a1, a2, a3, a4, a5, a6, a7] [] := ke_callV (m' := m_X5_isOne) (as := [vI n0]) (n := 1) (rest := []) dX5_post_2 rfl rfl rfl rfl rfl rfl (Nat.le_of_ble_eq_true rfl) (Nat.le_of_ble_eq_true rfl) (Nat.le_of_ble_eq_true rfl) rfl
theorem eX5_post_5 : ev X m_X5_post 5 [a0, a1, a2, a3, a4, a5, a6, a7] (vI x :: st) mem = if x = 0 then ev X m_X5_post 8 [a0, a1, a2, a3, a4, a5, a6, a7] st mem else ev X m_X5_post 12 [a0, a1, a2, a3, a4, a5, a6, a7] st mem := ke_if_ne dX5_post_5 rfl
theorem eX5_post_8 : ev X m_X5_post 8 [a0, a1, a2, a3, a4, a5, a6, a7] st mem = ev X m_X5_post 9 [a0, a1, a2, a3, a4, a5, a6, a7] (vI (-1) :: st) mem := ke_iconst (by decide) dX5_post_8
theorem eX5_post_9 : ev X m_X5_post 9 [a0, a1, a2, a3, a4, a5, a6, a7] st mem = ev X m_X5_post 27 [a0, a1, a2, a3, a4, a5, a6, a7] st mem := ke_goto dX5_post_9 rfl
theorem eX5_post_12 : ev X m_X5_post 12 [a0, a1, vI x, a3, a4, a5, a6, a7] st mem = ev X m_X5_post 13 [a0, a1, vI x, a3, a4, a5, a6, a7] (vI x :: st) mem := ke_iload_n rfl dX5_post_12
theorem eX5_post_13 : ev X m_X5_post 13 [a0, a1, a2, a3, a4, a5, a6, a7] st mem = ev X m_X5_post 14 [a0, a1, a2, a3, a4, a5, a6, a7] (vI 0 :: st) mem := ke_iconst (by decide) dX5_post_13
theorem eX5_post_14 : ev X m_X5_post 14 [a0, a1, a2, a3, a4, a5, a6, a7] st mem = ev X m_X5_post 15 [a0, a1, a2, a3, a4, a5, a6, a7] (vI 1 :: st) mem := ke_iconst (by decide) dX5_post_14
theorem eX5_post_15 : ev X m_X5_post 15 [a0, a1, a2, a3, a4, a5, a6, a7] (vI n2 :: vI n1 :: vI n0 :: []) mem = evc X (ev X m_X5_isIn 0 [vI n0, vI n1, vI n2] [] mem) m_X5_post 18 [a0, a1, a2, a3, a4, a5, a6, a7] [] := ke_callS (m' := m_X5_isIn) (as := [vI n0, vI n1, vI n2]) (n := 3) (rest := []) dX5_post_15 rfl (by decide) rfl rfl rfl rfl rfl (Nat.le_of_ble_eq_true rfl) (Nat.le_of_ble_eq_true rfl) rfl
theorem eX5_post_18 : ev X m_X5_post 18 [a0, a1, a2, a3, a4, a5, a6, a7] (vI x :: st) mem = if x = 0 then ev X m_X5_post 21 [a0, a1, a2, a3, a4, a5, a6, a7] st mem else ev X m_X5_post 26 [a0, a1, a2, a3, a4, a5, a6, a7] st mem := ke_if_ne dX5_post_18 rfl
theorem eX5_post_21 : ev X m_X5_post 21 [a0, a1, a2, a3, a4, a5, a6, a7] st mem = ev X m_X5_post 23 [a0, a1, a2, a3, a4, a5, a6, a7] (vI (-2) :: st) mem := ke_bipush (by decide) dX5_post_21
theorem eX5_post_23 : ev X m_X5_post 23 [a0, a1, a2, a3, a4, a5, a6, a7] st mem = ev X m_X5_post 27 [a0, a1, a2, a3, a4, a5, a6, a7] st mem := ke_goto dX5_post_23 rfl
theorem eX5_post_26 : ev X m_X5_post 26 [a0, a1, a2, a3, a4, a5, a6, a7] st mem = ev X m_X5_post 27 [a0, a1, a2, a3, a4, a5, a6, a7] (vI 0 :: st) mem := ke_iconst (by decide) dX5_post_26
theorem eX5_post_27 : ev X m_X5_post 27 [a0, a1, a2, a3, a4, a5, a6, a7] (vI x :: st) mem = ev X m_X5_post 28 [a0, a1, a2, vI x, a4, a5, a6, a7] st mem := ke_istore_n (Nat.le_of_ble_eq_true rfl) rfl dX5_post_27
theorem eX5_post_28 : ev X m_X5_post 28 [a0, a1, a2, vI x, a4, a5, a6, a7] st mem = ev X m_X5_post 29 [a0, a1, a2, vI x, a4, a5, a6, a7] (vI x :: st) mem := ke_iload_n rfl dX5_post_28
theorem eX5_post_29 : ev X m_X5_post 29 [a0, a1, a2, a3, a4, a5, a6, a7] (vI x :: st) mem = if x = 0 then ev X m_X5_post 38 [a0, a1, a2, a3, a4, a5, a6, a7] st mem else ev X m_X5_post 32 [a0, a1, a2, a3, a4, a5, a6, a7] st mem := ke_if_eq dX5_post_29 rfl
theorem eX5_post_32 : ev X m_X5_post 32 [vR r, a1, a2, a3, a4, a5, a6, a7] st mem = ev X m_X5_post 33 [vR r, a1, a2, a3, a4, a5, a6, a7] (vR r :: st) mem := ke_aload_n rfl dX5_post_32
theorem eX5_post_33 : ev X m_X5_post 33 [a0, a1, a2, vI x, a4, a5, a6, a7] st mem = ev X m_X5_post 34 [a0, a1, a2, vI x, a4, a5, a6, a7] (vI x :: st) mem := ke_iload_n rfl dX5_post_33
theorem eX5_post_34 : ev X m_X5_post 34 [a0, a1, a2, a3, a4, a5, a6, a7] (vI n0 :: vR r :: []) mem = evc X (gR mem r 5 (ev X m_X5_no 0 [vR r, vI n0] [] mem)) m_X5_post 37 [a0, a1, a2, a3, a4, a5, a6, a7] [] := ke_callV (m' := m_X5_no) (as := [vI n0]) (n := 1) (rest := []) dX5_post_34 rfl rfl rfl rfl rfl rfl (Nat.le_of_ble_eq_true rfl) (Nat.le_of_ble_eq_true rfl) (Nat.le_of_ble_eq_true rfl) rfl
theorem eX5_post_37 : ev X m_X5_post 37 [a0, a1, a2, a3, a4, a5, a6, a7] [vI x] mem = some (some (vI x), mem) := ke_ireturn dX5_post_37 rfl
theorem eX5_post_38 : ev X m_X5_post 38 [a0, a1, a2, a3, a4, a5, a6, a7] st mem = ev X m_X5_post 40 [a0, a1, a2, a3, a4, a5, a6, a7] (vI (-9) :: st) mem := ke_bipush (by decide) dX5_post_38
theorem eX5_post_40 : ev X m_X5_post 40 [a0, a1, a2, a3, a4, a5, a6, a7] (vI x :: st) mem = ev X m_X5_post 42 [a0, a1, a2, a3, vI x, a5, a6, a7] st mem := ke_istore (Nat.le_of_ble_eq_true rfl) rfl dX5_post_40
theorem eX5_post_42 : ev X m_X5_post 42 [a0, a1, a2, a3, a4, a5, a6, a7] st mem = ev X m_X5_post 45 [a0, a1, a2, a3, a4, a5, a6, a7] (vI 1000 :: st) mem := ke_sipush (by decide) dX5_post_42
theorem eX5_post_45 : ev X m_X5_post 45 [a0, a1, a2, a3, a4, a5, a6, a7] (vI x :: st) mem = ev X m_X5_post 47 [a0, a1, a2, a3, a4, vI x, a6, a7] st mem := ke_istore (Nat.le_of_ble_eq_true rfl) rfl dX5_post_45
theorem eX5_post_47 : ev X m_X5_post 47 [a0, a1, a2, a3, a4, a5, a6, a7] st mem = ev X m_X5_post 48 [a0, a1, a2, a3, a4, a5, a6, a7] (vI 0 :: st) mem := ke_iconst (by decide) dX5_post_47
theorem eX5_post_48 : ev X m_X5_post 48 [a0, a1, a2, a3, a4, a5, a6, a7] (vI x :: st) mem = ev X m_X5_post 50 [a0, a1, a2, a3, a4, a5, vI x, a7] st mem := ke_istore (Nat.le_of_ble_eq_true rfl) rfl dX5_post_48
theorem eX5_post_50 : ev X m_X5_post 50 [a0, a1, a2, a3, a4, a5, vI x, a7] st mem = ev X m_X5_post 52 [a0, a1, a2, a3, a4, a5, vI x, a7] (vI x :: st) mem := ke_iload rfl dX5_post_50
theorem eX5_post_52 : ev X m_X5_post 52 [a0, a1, a2, a3, a4, a5, a6, a7] st mem = ev X m_X5_post 54 [a0, a1, a2, a3, a4, a5, a6, a7] (vI 30 :: st) mem := ke_bipush (by decide) dX5_post_52
theorem eX5_post_54 : ev X m_X5_post 54 [a0, a1, a2, a3, a4, a5, a6, a7] (vI y :: vI x :: st) mem = if y < x then ev X m_X5_post 99 [a0, a1, a2, a3, a4, a5, a6, a7] st mem else ev X m_X5_post 57 [a0, a1, a2, a3, a4, a5, a6, a7] st mem := ke_icmp_gt dX5_post_54 rfl
theorem eX5_post_57 : ev X m_X5_post 57 [vR r, a1, a2, a3, a4, a5, a6, a7] st mem = ev X m_X5_post 58 [vR r, a1, a2, a3, a4, a5, a6, a7] (vR r :: st) mem := ke_aload_n rfl dX5_post_57
theorem eX5_post_58 : ev X m_X5_post 58 [a0, a1, a2, a3, a4, a5, a6, a7] (vR r :: st) mem = evb X (fget mem r 5 12) m_X5_post 61 [a0, a1, a2, a3, a4, a5, a6, a7] st mem := ke_getf rfl dX5_post_58
theorem eX5_post_61 : ev X m_X5_post 61 [a0, a1, a2, a3, a4, a5, a6, a7] st mem = ev X m_X5_post 63 [a0, a1, a2, a3, a4, a5, a6, a7] (vI 8 :: st) mem := ke_bipush (by decide) dX5_post_61
theorem eX5_post_63 : ev X m_X5_post 63 [a0, a1, a2, a3, a4, a5, a6, a7] (vI y :: vI x :: st) mem = if x < y then ev X m_X5_post 66 [a0, a1, a2, a3, a4, a5, a6, a7] st mem else ev X m_X5_post 99 [a0, a1, a2, a3, a4, a5, a6, a7] st mem := ke_icmp_ge dX5_post_63 rfl
theorem eX5_post_66 : ev X m_X5_post 66 [vR r, a1, a2, a3, a4, a5, a6, a7] st mem = ev X m_X5_post 67 [vR r, a1, a2, a3, a4, a5, a6, a7] (vR r :: st) mem := ke_aload_n rfl dX5_post_66
theorem eX5_post_67 : ev X m_X5_post 67 [a0, vI x, a2, a3, a4, a5, a6, a7] st mem = ev X m_X5_post 68 [a0, vI x, a2, a3, a4, a5, a6, a7] (vI x :: st) mem := ke_iload_n rfl dX5_post_67
theorem eX5_post_68 : ev X m_X5_post 68 [a0, a1, a2, a3, a4, a5, vI x, a7] st mem = ev X m_X5_post 70 [a0, a1, a2, a3, a4, a5, vI x, a7] (vI x :: st) mem := ke_iload rfl dX5_post_68
theorem eX5_post_70 : ev X m_X5_post 70 [a0, a1, a2, a3, a4, a5, a6, a7] (vI n1 :: vI n0 :: vR r :: []) mem = evc X (gR mem r 5 (ev X m_X5_latePosted 0 [vR r, vI n0, vI n1, vS] [] mem)) m_X5_post 73 [a0, a1, a2, a3, a4, a5, a6, a7] [] := ke_callV (m' := m_X5_latePosted) (as := [vI n0, vI n1]) (n := 2) (rest := []) dX5_post_70 rfl rfl rfl rfl rfl rfl (Nat.le_of_ble_eq_true rfl) (Nat.le_of_ble_eq_true rfl) (Nat.le_of_ble_eq_true rfl) rfl
theorem eX5_post_73 : ev X m_X5_post 73 [a0, a1, a2, a3, a4, a5, a6, a7] (vI x :: st) mem = ev X m_X5_post 75 [a0, a1, a2, a3, a4, a5, a6, vI x] st mem := ke_istore (Nat.le_of_ble_eq_true rfl) rfl dX5_post_73
theorem eX5_post_75 : ev X m_X5_post 75 [a0, a1, a2, a3, a4, a5, a6, vI x] st mem = ev X m_X5_post 77 [a0, a1, a2, a3, a4, a5, a6, vI x] (vI x :: st) mem := ke_iload rfl dX5_post_75
theorem eX5_post_77 : ev X m_X5_post 77 [a0, a1, a2, a3, a4, vI x, a6, a7] st mem = ev X m_X5_post 79 [a0, a1, a2, a3, a4, vI x, a6, a7] (vI x :: st) mem := ke_iload rfl dX5_post_77
theorem eX5_post_79 : ev X m_X5_post 79 [a0, a1, a2, a3, a4, a5, a6, a7] (vI y :: vI x :: st) mem = if x < y then ev X m_X5_post 85 [a0, a1, a2, a3, a4, a5, a6, a7] st mem else ev X m_X5_post 82 [a0, a1, a2, a3, a4, a5, a6, a7] st mem := ke_icmp_lt dX5_post_79 rfl
theorem eX5_post_82 : ev X m_X5_post 82 [a0, a1, a2, a3, a4, a5, a6, a7] st mem = ev X m_X5_post 93 [a0, a1, a2, a3, a4, a5, a6, a7] st mem := ke_goto dX5_post_82 rfl
theorem eX5_post_85 : ev X m_X5_post 85 [a0, a1, a2, a3, a4, a5, vI x, a7] st mem = ev X m_X5_post 87 [a0, a1, a2, a3, a4, a5, vI x, a7] (vI x :: st) mem := ke_iload rfl dX5_post_85
theorem eX5_post_87 : ev X m_X5_post 87 [a0, a1, a2, a3, a4, a5, a6, a7] (vI x :: st) mem = ev X m_X5_post 89 [a0, a1, a2, a3, vI x, a5, a6, a7] st mem := ke_istore (Nat.le_of_ble_eq_true rfl) rfl dX5_post_87
theorem eX5_post_89 : ev X m_X5_post 89 [a0, a1, a2, a3, a4, a5, a6, vI x] st mem = ev X m_X5_post 91 [a0, a1, a2, a3, a4, a5, a6, vI x] (vI x :: st) mem := ke_iload rfl dX5_post_89
theorem eX5_post_91 : ev X m_X5_post 91 [a0, a1, a2, a3, a4, a5, a6, a7] (vI x :: st) mem = ev X m_X5_post 93 [a0, a1, a2, a3, a4, vI x, a6, a7] st mem := ke_istore (Nat.le_of_ble_eq_true rfl) rfl dX5_post_91
theorem eX5_post_93 : ev X m_X5_post 93 [a0, a1, a2, a3, a4, a5, vI x, a7] st mem = ev X m_X5_post 96 [a0, a1, a2, a3, a4, a5, vI (w32 (x + 1)), a7] st mem := ke_iinc rfl (Nat.le_of_ble_eq_true rfl) rfl dX5_post_93
theorem eX5_post_96 : ev X m_X5_post 96 [a0, a1, a2, a3, a4, a5, a6, a7] st mem = ev X m_X5_post 50 [a0, a1, a2, a3, a4, a5, a6, a7] st mem := ke_goto dX5_post_96 rfl
theorem eX5_post_99 : ev X m_X5_post 99 [a0, a1, vI x, a3, a4, a5, a6, a7] st mem = ev X m_X5_post 100 [a0, a1, vI x, a3, a4, a5, a6, a7] (vI x :: st) mem := ke_iload_n rfl dX5_post_99
theorem eX5_post_100 : ev X m_X5_post 100 [a0, a1, a2, a3, a4, a5, a6, a7] (vI x :: st) mem = if x = 0 then ev X m_X5_post 108 [a0, a1, a2, a3, a4, a5, a6, a7] st mem else ev X m_X5_post 103 [a0, a1, a2, a3, a4, a5, a6, a7] st mem := ke_if_eq dX5_post_100 rfl
theorem eX5_post_103 : ev X m_X5_post 103 [a0, a1, a2, a3, vI x, a5, a6, a7] st mem = ev X m_X5_post 105 [a0, a1, a2, a3, vI x, a5, a6, a7] (vI x :: st) mem := ke_iload rfl dX5_post_103
theorem eX5_post_105 : ev X m_X5_post 105 [a0, a1, a2, a3, a4, a5, a6, a7] (vI x :: st) mem = if x < 0 then ev X m_X5_post 108 [a0, a1, a2, a3, a4, a5, a6, a7] st mem else ev X m_X5_post 113 [a0, a1, a2, a3, a4, a5, a6, a7] st mem := ke_if_ge dX5_post_105 rfl
theorem eX5_post_108 : ev X m_X5_post 108 [a0, a1, a2, a3, vI x, a5, a6, a7] st mem = ev X m_X5_post 110 [a0, a1, a2, a3, vI x, a5, a6, a7] (vI x :: st) mem := ke_iload rfl dX5_post_108
theorem eX5_post_110 : ev X m_X5_post 110 [a0, a1, a2, a3, a4, a5, a6, a7] st mem = ev X m_X5_post 115 [a0, a1, a2, a3, a4, a5, a6, a7] st mem := ke_goto dX5_post_110 rfl
theorem eX5_post_113 : ev X m_X5_post 113 [a0, a1, a2, a3, a4, vI x, a6, a7] st mem = ev X m_X5_post 115 [a0, a1, a2, a3, a4, vI x, a6, a7] (vI x :: st) mem := ke_iload rfl dX5_post_113
theorem eX5_post_115 : ev X m_X5_post 115 [a0, a1, a2, a3, a4, a5, a6, a7] [vI x] mem = some (some (vI x), mem) := ke_ireturn dX5_post_115 rfl
theorem eX5_latePosted_0 : ev X m_X5_latePosted 0 [vR r, a1, a2, a3] st mem = ev X m_X5_latePosted 1 [vR r, a1, a2, a3] (vR r :: st) mem := ke_aload_n rfl dX5_latePosted_0
theorem eX5_latePosted_1 : ev X m_X5_latePosted 1 [a0, a1, a2, a3] (vR r :: []) mem = evc X (gR mem r 5 (ev X m_X5_changes 0 [vR r] [] mem)) m_X5_latePosted 4 [a0, a1, a2, a3] [] := ke_callV (m' := m_X5_changes) (as := []) (n := 0) (rest := []) dX5_latePosted_1 rfl rfl rfl rfl rfl rfl (Nat.le_of_ble_eq_true rfl) (Nat.le_of_ble_eq_true rfl) (Nat.le_of_ble_eq_true rfl) rfl
theorem eX5_latePosted_4 : ev X m_X5_latePosted 4 [vR r, a1, a2, a3] st mem = ev X m_X5_latePosted 5 [vR r, a1, a2, a3] (vR r :: st) mem := ke_aload_n rfl dX5_latePosted_4
theorem eX5_latePosted_5 : ev X m_X5_latePosted 5 [a0, a1, vI x, a3] st mem = ev X m_X5_latePosted 6 [a0, a1, vI x, a3] (vI x :: st) mem := ke_iload_n rfl dX5_latePosted_5
theorem eX5_latePosted_6 : ev X m_X5_latePosted 6 [a0, a1, a2, a3] (vI n0 :: vR r :: []) mem = evc X (gR mem r 5 (ev X m_X5_goes 0 [vR r, vI n0, vS] [] mem)) m_X5_latePosted 9 [a0, a1, a2, a3] [] := ke_callV (m' := m_X5_goes) (as := [vI n0]) (n := 1) (rest := []) dX5_latePosted_6 rfl rfl rfl rfl rfl rfl (Nat.le_of_ble_eq_true rfl) (Nat.le_of_ble_eq_true rfl) (Nat.le_of_ble_eq_true rfl) rfl
theorem eX5_latePosted_9 : ev X m_X5_latePosted 9 [vR r, a1, a2, a3] st mem = ev X m_X5_latePosted 10 [vR r, a1, a2, a3] (vR r :: st) mem := ke_aload_n rfl dX5_latePosted_9
theorem eX5_latePosted_10 : ev X m_X5_latePosted 10 [a0, vI x, a2, a3] st mem = ev X m_X5_latePosted 11 [a0, vI x, a2, a3] (vI x :: st) mem := ke_iload_n rfl dX5_latePosted_10
theorem eX5_latePosted_11 : ev X m_X5_latePosted 11 [a0, a1, a2, a3] st mem = ev X m_X5_latePosted 12 [a0, a1, a2, a3] (vI 0 :: st) mem := ke_iconst (by decide) dX5_latePosted_11
theorem eX5_latePosted_12 : ev X m_X5_latePosted 12 [a0, a1, a2, a3] (vI n1 :: vI n0 :: vR r :: []) mem = evc X (gR mem r 5 (ev X m_X5_adds 0 [vR r, vI n0, vI n1] [] mem)) m_X5_latePosted 15 [a0, a1, a2, a3] [] := ke_callV (m' := m_X5_adds) (as := [vI n0, vI n1]) (n := 2) (rest := []) dX5_latePosted_12 rfl rfl rfl rfl rfl rfl (Nat.le_of_ble_eq_true rfl) (Nat.le_of_ble_eq_true rfl) (Nat.le_of_ble_eq_true rfl) rfl
theorem eX5_latePosted_15 : ev X m_X5_latePosted 15 [vR r, a1, a2, a3] st mem = ev X m_X5_latePosted 16 [vR r, a1, a2, a3] (vR r :: st) mem := ke_aload_n rfl dX5_latePosted_15
theorem eX5_latePosted_16 : ev X m_X5_latePosted 16 [vR r, a1, a2, a3] st mem = ev X m_X5_latePosted 17 [vR r, a1, a2, a3] (vR r :: st) mem := ke_aload_n rfl dX5_latePosted_16
theorem eX5_latePosted_17 : ev X m_X5_latePosted 17 [a0, a1, a2, a3] (vR r :: st) mem = evb X (fget mem r 5 12) m_X5_latePosted 20 [a0, a1, a2, a3] st mem := ke_getf rfl dX5_latePosted_17
theorem eX5_latePosted_20 : ev X m_X5_latePosted 20 [a0, a1, a2, a3] st mem = ev X m_X5_latePosted 21 [a0, a1, a2, a3] (vI 1 :: st) mem := ke_iconst (by decide) dX5_latePosted_20
theorem eX5_latePosted_21 : ev X m_X5_latePosted 21 [a0, a1, a2, a3] (vI y :: vI x :: st) mem = ev X m_X5_latePosted 22 [a0, a1, a2, a3] (vI (w32 (x - y)) :: st) mem := ke_isub dX5_latePosted_21
theorem eX5_latePosted_22 : ev X m_X5_latePosted 22 [a0, a1, a2, a3] (vI n0 :: vR r :: []) mem = evc X (gR mem r 5 (ev X m_X5_lateOf 0 [vR r, vI n0, vS] [] mem)) m_X5_latePosted 25 [a0, a1, a2, a3] [] := ke_callV (m' := m_X5_lateOf) (as := [vI n0]) (n := 1) (rest := []) dX5_latePosted_22 rfl rfl rfl rfl rfl rfl (Nat.le_of_ble_eq_true rfl) (Nat.le_of_ble_eq_true rfl) (Nat.le_of_ble_eq_true rfl) rfl
theorem eX5_latePosted_25 : ev X m_X5_latePosted 25 [a0, a1, vI x, a3] st mem = ev X m_X5_latePosted 26 [a0, a1, vI x, a3] (vI x :: st) mem := ke_iload_n rfl dX5_latePosted_25
theorem eX5_latePosted_26 : ev X m_X5_latePosted 26 [a0, a1, a2, a3] (vI y :: vI x :: st) mem = ev X m_X5_latePosted 27 [a0, a1, a2, a3] (vI (w32 (x + y)) :: st) mem := ke_iadd dX5_latePosted_26
theorem eX5_latePosted_27 : ev X m_X5_latePosted 27 [a0, a1, a2, a3] (vI x :: st) mem = ev X m_X5_latePosted 28 [a0, a1, a2, vI x] st mem := ke_istore_n (Nat.le_of_ble_eq_true rfl) rfl dX5_latePosted_27
theorem eX5_latePosted_28 : ev X m_X5_latePosted 28 [vR r, a1, a2, a3] st mem = ev X m_X5_latePosted 29 [vR r, a1, a2, a3] (vR r :: st) mem := ke_aload_n rfl dX5_latePosted_28
theorem eX5_latePosted_29 : ev X m_X5_latePosted 29 [a0, a1, a2, a3] (vR r :: []) mem = evc X (gR mem r 5 (ev X m_X5_changesBack 0 [vR r] [] mem)) m_X5_latePosted 32 [a0, a1, a2, a3] [] := ke_callV (m' := m_X5_changesBack) (as := []) (n := 0) (rest := []) dX5_latePosted_29 rfl rfl rfl rfl rfl rfl (Nat.le_of_ble_eq_true rfl) (Nat.le_of_ble_eq_true rfl) (Nat.le_of_ble_eq_true rfl) rfl
theorem eX5_latePosted_32 : ev X m_X5_latePosted 32 [a0, a1, a2, vI x] st mem = ev X m_X5_latePosted 33 [a0, a1, a2, vI x] (vI x :: st) mem := ke_iload_n rfl dX5_latePosted_32
theorem eX5_latePosted_33 : ev X m_X5_latePosted 33 [a0, a1, a2, a3] st mem = ev X m_X5_latePosted 35 [a0, a1, a2, a3] (vI 99 :: st) mem := ke_bipush (by decide) dX5_latePosted_33
theorem eX5_latePosted_35 : ev X m_X5_latePosted 35 [a0, a1, a2, a3] (vI y :: vI x :: st) mem = if y < x then ev X m_X5_latePosted 38 [a0, a1, a2, a3] st mem else ev X m_X5_latePosted 44 [a0, a1, a2, a3] st mem := ke_icmp_le dX5_latePosted_35 rfl
theorem eX5_latePosted_38 : ev X m_X5_latePosted 38 [a0, a1, a2, a3] st mem = ev X m_X5_latePosted 41 [a0, a1, a2, a3] (vI 1000 :: st) mem := ke_sipush (by decide) dX5_latePosted_38
theorem eX5_latePosted_41 : ev X m_X5_latePosted 41 [a0, a1, a2, a3] st mem = ev X m_X5_latePosted 45 [a0, a1, a2, a3] st mem := ke_goto dX5_latePosted_41 rfl
theorem eX5_latePosted_44 : ev X m_X5_latePosted 44 [a0, a1, a2, vI x] st mem = ev X m_X5_latePosted 45 [a0, a1, a2, vI x] (vI x :: st) mem := ke_iload_n rfl dX5_latePosted_44
theorem eX5_latePosted_45 : ev X m_X5_latePosted 45 [a0, a1, a2, a3] [vI x] mem = some (some (vI x), mem) := ke_ireturn dX5_latePosted_45 rfl
theorem eX5_road_0 : ev X m_X5_road 0 [vR r, a1, a2] st mem = ev X m_X5_road 1 [vR r, a1, a2] (vR r :: st) mem := ke_aload_n rfl dX5_road_0
theorem eX5_road_1 : ev X m_X5_road 1 [a0, vI x, a2] st mem = ev X m_X5_road 2 [a0, vI x, a2] (vI x :: st) mem := ke_iload_n rfl dX5_road_1
theorem eX5_road_2 : ev X m_X5_road 2 [a0, a1, vI x] st mem = ev X m_X5_road 3 [a0, a1, vI x] (vI x :: st) mem := ke_iload_n rfl dX5_road_2
theorem eX5_road_3 : ev X m_X5_road 3 [a0, a1, a2] (vI n1 :: vI n0 :: vR r :: []) mem = evc X (gR mem r 5 (ev X m_X5_areTwo 0 [vR r, vI n0, vI n1] [] mem)) m_X5_road 6 [a0, a1, a2] [] := ke_callV (m' := m_X5_areTwo) (as := [vI n0, vI n1]) (n := 2) (rest := []) dX5_road_3 rfl rfl rfl rfl rfl rfl (Nat.le_of_ble_eq_true rfl) (Nat.le_of_ble_eq_true rfl) (Nat.le_of_ble_eq_true rfl) rfl
theorem eX5_road_6 : ev X m_X5_road 6 [a0, a1, a2] (vI x :: st) mem = if x = 0 then ev X m_X5_road 27 [a0, a1, a2] st mem else ev X m_X5_road 9 [a0, a1, a2] st mem := ke_if_eq dX5_road_6 rfl
theorem eX5_road_9 : ev X m_X5_road 9 [vR r, a1, a2] st mem = ev X m_X5_road 10 [vR r, a1, a2] (vR r :: st) mem := ke_aload_n rfl dX5_road_9
theorem eX5_road_10 : ev X m_X5_road 10 [a0, a1, a2] (vR r :: st) mem = evb X (fget mem r 5 3) m_X5_road 13 [a0, a1, a2] st mem := ke_getf rfl dX5_road_10
theorem eX5_road_13 : ev X m_X5_road 13 [a0, vI x, a2] st mem = ev X m_X5_road 14 [a0, vI x, a2] (vI x :: st) mem := ke_iload_n rfl dX5_road_13
theorem eX5_road_14 : ev X m_X5_road 14 [a0, a1, a2] (vI x :: vR r :: st) mem = evb X (aget mem r x) m_X5_road 15 [a0, a1, a2] st mem := ke_iaload dX5_road_14
theorem eX5_road_15 : ev X m_X5_road 15 [vR r, a1, a2] st mem = ev X m_X5_road 16 [vR r, a1, a2] (vR r :: st) mem := ke_aload_n rfl dX5_road_15
theorem eX5_road_16 : ev X m_X5_road 16 [a0, a1, a2] (vR r :: st) mem = evb X (fget mem r 5 3) m_X5_road 19 [a0, a1, a2] st mem := ke_getf rfl dX5_road_16
theorem eX5_road_19 : ev X m_X5_road 19 [a0, a1, vI x] st mem = ev X m_X5_road 20 [a0, a1, vI x] (vI x :: st) mem := ke_iload_n rfl dX5_road_19
theorem eX5_road_20 : ev X m_X5_road 20 [a0, a1, a2] (vI x :: vR r :: st) mem = evb X (aget mem r x) m_X5_road 21 [a0, a1, a2] st mem := ke_iaload dX5_road_20
theorem eX5_road_21 : ev X m_X5_road 21 [a0, a1, a2] (vI n1 :: vI n0 :: []) mem = evc X (ev X m_X5_apart 0 [vI n0, vI n1] [] mem) m_X5_road 24 [a0, a1, a2] [] := ke_callS (m' := m_X5_apart) (as := [vI n0, vI n1]) (n := 2) (rest := []) dX5_road_21 rfl (by decide) rfl rfl rfl rfl rfl (Nat.le_of_ble_eq_true rfl) (Nat.le_of_ble_eq_true rfl) rfl
theorem eX5_road_24 : ev X m_X5_road 24 [a0, a1, a2] st mem = ev X m_X5_road 32 [a0, a1, a2] st mem := ke_goto dX5_road_24 rfl
theorem eX5_road_27 : ev X m_X5_road 27 [vR r, a1, a2] st mem = ev X m_X5_road 28 [vR r, a1, a2] (vR r :: st) mem := ke_aload_n rfl dX5_road_27
theorem eX5_road_28 : ev X m_X5_road 28 [a0, a1, a2] st mem = ev X m_X5_road 29 [a0, a1, a2] (vI (-1) :: st) mem := ke_iconst (by decide) dX5_road_28
theorem eX5_road_29 : ev X m_X5_road 29 [a0, a1, a2] (vI n0 :: vR r :: []) mem = evc X (gR mem r 5 (ev X m_X5_no 0 [vR r, vI n0] [] mem)) m_X5_road 32 [a0, a1, a2] [] := ke_callV (m' := m_X5_no) (as := [vI n0]) (n := 1) (rest := []) dX5_road_29 rfl rfl rfl rfl rfl rfl (Nat.le_of_ble_eq_true rfl) (Nat.le_of_ble_eq_true rfl) (Nat.le_of_ble_eq_true rfl) rfl
theorem eX5_road_32 : ev X m_X5_road 32 [a0, a1, a2] [vI x] mem = some (some (vI x), mem) := ke_ireturn dX5_road_32 rfl
theorem eX5_farthest_0 : ev X m_X5_farthest 0 [a0, a1, a2, a3, a4] st mem = ev X m_X5_farthest 2 [a0, a1, a2, a3, a4] (vI (-9) :: st) mem := ke_bipush (by decide) dX5_farthest_0
theorem eX5_farthest_2 : ev X m_X5_farthest 2 [a0, a1, a2, a3, a4] (vI x :: st) mem = ev X m_X5_farthest 3 [a0, vI x, a2, a3, a4] st mem := ke_istore_n (Nat.le_of_ble_eq_true rfl) rfl dX5_farthest_2
theorem eX5_farthest_3 : ev X m_X5_farthest 3 [a0, a1, a2, a3, a4] st mem = ev X m_X5_farthest 5 [a0, a1, a2, a3, a4] (vI (-9) :: st) mem := ke_bipush (by decide) dX5_farthest_3
theorem eX5_farthest_5 : ev X m_X5_farthest 5 [a0, a1, a2, a3, a4] (vI x :: st) mem = ev X m_X5_farthest 6 [a0, a1, vI x, a3, a4] st mem := ke_istore_n (Nat.le_of_ble_eq_true rfl) rfl dX5_farthest_5
theorem eX5_farthest_6 : ev X m_X5_farthest 6 [a0, a1, a2, a3, a4] st mem = ev X m_X5_farthest 7 [a0, a1, a2, a3, a4] (vI 0 :: st) mem := ke_iconst (by decide) dX5_farthest_6
theorem eX5_farthest_7 : ev X m_X5_farthest 7 [a0, a1, a2, a3, a4] (vI x :: st) mem = ev X m_X5_farthest 8 [a0, a1, a2, vI x, a4] st mem := ke_istore_n (Nat.le_of_ble_eq_true rfl) rfl dX5_farthest_7
theorem eX5_farthest_8 : ev X m_X5_farthest 8 [a0, a1, a2, vI x, a4] st mem = ev X m_X5_farthest 9 [a0, a1, a2, vI x, a4] (vI x :: st) mem := ke_iload_n rfl dX5_farthest_8
theorem eX5_farthest_9 : ev X m_X5_farthest 9 [vR r, a1, a2, a3, a4] st mem = ev X m_X5_farthest 10 [vR r, a1, a2, a3, a4] (vR r :: st) mem := ke_aload_n rfl dX5_farthest_9
theorem eX5_farthest_10 : ev X m_X5_farthest 10 [a0, a1, a2, a3, a4] (vR r :: st) mem = evb X (fget mem r 5 11) m_X5_farthest 13 [a0, a1, a2, a3, a4] st mem := ke_getf rfl dX5_farthest_10
theorem eX5_farthest_13 : ev X m_X5_farthest 13 [a0, a1, a2, a3, a4] (vI y :: vI x :: st) mem = if x < y then ev X m_X5_farthest 16 [a0, a1, a2, a3, a4] st mem else ev X m_X5_farthest 90 [a0, a1, a2, a3, a4] st mem := ke_icmp_ge dX5_farthest_13 rfl
theorem eX5_farthest_16 : ev X m_X5_farthest 16 [a0, a1, a2, vI x, a4] st mem = ev X m_X5_farthest 17 [a0, a1, a2, vI x, a4] (vI x :: st) mem := ke_iload_n rfl dX5_farthest_16
theorem eX5_farthest_17 : ev X m_X5_farthest 17 [a0, a1, a2, a3, a4] st mem = ev X m_X5_farthest 18 [a0, a1, a2, a3, a4] (vI 1 :: st) mem := ke_iconst (by decide) dX5_farthest_17
end ELEM
